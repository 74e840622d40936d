import java.util.ArrayList;
import java.util.LinkedHashMap;
import java.util.List;
import java.util.Map;

/**
 * Calls of a new object that are told again from the start whenever something is tried behind them, so that
 * each try stands alone, and no object is called more often than something is promised about it.
 */
final class Story {
    private static final int MOST_STATES = 4;
    private static final int MOST_LOUDNESS = 1000000;

    private final Check check;
    private final List<String> told = new ArrayList<>();
    // what is to be seen behind the calls told so far and as many undos, filled as it is needed
    private final List<Map<String, Integer>> views = new ArrayList<>();

    Story(Check check) {
        this.check = check;
    }

    /** Goes on with these calls; where "= .." stands behind one, the answer is compared. */
    Story then(String... lines) {
        RoomTails object = tell(told);
        for (String line : lines) {
            String call = Calls.callIn(line);
            told.add(call);
            int answer = Calls.answer(object, call);
            if (!line.equals(call)) {
                check.due(call, answer, Calls.dueIn(line));
            }
        }
        views.clear();
        return this;
    }

    Story times(int times, String... lines) {
        for (int i = 0; i < times; i++) {
            then(lines);
        }
        return this;
    }

    Story text(String text) {
        then("clearText()");
        for (char character : text.toCharArray()) {
            then("type(" + (int) character + ")");
        }
        return this;
    }

    /** Goes on with sounds and steps by which a room gets this much; it keeps it, if it absorbs nothing and no door is open. */
    Story hears(int room, int energy) {
        int left = energy;
        while (left > 0) {
            int present = answerTo("count(3)");
            int steps = 0;
            for (int entries = answerTo("count(2)"); left > 0 && entries < 16; entries++) {
                int loudness = Math.min(left, MOST_LOUDNESS);
                int soundSteps = Math.min(20, left / loudness);
                then("sound(" + room + ", " + present + ", " + soundSteps + ", " + loudness + ")");
                left -= soundSteps * loudness;
                steps = Math.max(steps, soundSteps);
            }
            then("pass(" + steps + ")");
        }
        return this;
    }

    /** Each by itself: questions and calls that return errors. Nothing is different behind them, nor behind undos. */
    Story keeps(String... lines) {
        for (String line : lines) {
            String call = Calls.callIn(line);
            List<String> calls = new ArrayList<>(told);
            check.due(call, Calls.answer(tell(calls), call), Calls.dueIn(line));
            calls.add(call);
            for (int undos = 0; undos <= MOST_STATES; undos++) {
                compare(call + " and " + undos + " undos", viewBehind(calls, undos), viewOfStory(undos));
            }
        }
        return this;
    }

    /** Each by itself: changes, which are one state of the history; undo brings back what there was. */
    Story changes(String... lines) {
        for (String line : lines) {
            String call = Calls.callIn(line);
            List<String> calls = new ArrayList<>(told);
            RoomTails object = tell(calls);
            int before = object.count(11);
            check.due(call, Calls.answer(object, call), Calls.dueIn(line));
            check.due("count(11) behind " + call, object.count(11), Math.min(MOST_STATES, before + 1));
            calls.add(call);
            int left = Math.min(MOST_STATES - 1, before);
            for (int undos = 0; undos <= left; undos++) {
                Map<String, Integer> was = new LinkedHashMap<>(viewOfStory(undos));
                was.put("count(11)", left - undos);
                compare(call + ", its undo and " + undos + " undos", viewBehind(calls, undos + 1), was);
            }
        }
        return this;
    }

    /** Goes on with changes, each of which is tried by itself first. */
    Story goesOn(String... lines) {
        for (String line : lines) {
            changes(line);
            then(line);
        }
        return this;
    }

    int answerTo(String call) {
        return Calls.answer(tell(told), call);
    }

    private static RoomTails tell(List<String> calls) {
        if (calls.size() > Calls.MOST - 10) {
            throw new IllegalStateException("too many calls are told");
        }
        RoomTails object = new RoomTails();
        for (String call : calls) {
            Calls.answer(object, call);
        }
        return object;
    }

    private Map<String, Integer> viewOfStory(int undos) {
        while (views.size() <= undos) {
            views.add(viewBehind(told, views.size()));
        }
        return views.get(undos);
    }

    private static Map<String, Integer> viewBehind(List<String> calls, int undos) {
        List<String> all = new ArrayList<>(calls);
        for (int i = 0; i < undos; i++) {
            all.add("undo()");
        }
        Map<String, Integer> view = new LinkedHashMap<>();
        RoomTails object = tell(all);
        int made = all.size();
        for (String question : questionsTo(tell(all))) {
            if (made >= Calls.MOST) {
                object = tell(all);
                made = all.size();
            }
            view.put(question, Calls.answer(object, question));
            made++;
        }
        return view;
    }

    private static List<String> questionsTo(RoomTails object) {
        int rooms = object.count(0);
        int doors = object.count(1);
        int entries = object.count(2);
        List<String> questions = new ArrayList<>();
        for (int what = 0; what <= 21; what++) {
            questions.add("count(" + what + ")");
        }
        for (int room = 0; room <= rooms; room++) {
            add(questions, "roomOf(" + room + ", ", 0, room < rooms ? 8 : 0);
            add(questions, "fell(" + room + ", ", 1, 2);
            questions.add("fell(" + room + ", 32)");
            questions.add("tail(" + room + ")");
            questions.add("rise(" + room + ")");
            add(questions, "peak(" + room + ", ", 0, 1);
            questions.add("way(" + room + ", 8)");
        }
        for (int door = 0; door <= doors; door++) {
            add(questions, "doorOf(" + door + ", ", 0, door < doors ? 12 : 0);
            questions.add("refusal(" + door + ", 0)");
            questions.add("refusal(" + door + ", 10)");
        }
        for (int entry = 0; entry <= entries; entry++) {
            add(questions, "plan(" + entry + ", ", 0, 4);
        }
        questions.add("quiet()");
        add(questions, "fault(", 0, 1);
        return questions;
    }

    private static void add(List<String> questions, String begin, int least, int most) {
        for (int what = least; what <= most; what++) {
            questions.add(begin + what + ")");
        }
    }

    private void compare(String behind, Map<String, Integer> got, Map<String, Integer> want) {
        if (got.equals(want)) {
            check.due(behind, 0, 0);
            return;
        }
        for (Map.Entry<String, Integer> one : want.entrySet()) {
            if (!one.getValue().equals(got.get(one.getKey()))) {
                // a question that is only there in one of them is an answer that is not due
                int answer = got.getOrDefault(one.getKey(), Integer.MIN_VALUE);
                check.due(one.getKey() + " behind " + behind, answer, one.getValue());
                return;
            }
        }
        check.due("more can be asked behind " + behind, got.size(), want.size());
    }
}
