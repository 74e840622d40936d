import java.util.Arrays;
import java.util.TreeMap;

/** Random runs of calls, always the same ones, compared with the model call by call. */
public final class ModelTest {
    private static final String[] CALLS = {
        "room", "door", "open", "refusal", "lock", "set", "roomOf", "doorOf", "count", "undo", "sound", "planDoor",
        "cancel", "plan", "pass", "way", "tail", "tailWith", "bestDoor", "rise", "peak", "quiet", "fell", "type",
        "clearText", "fault", "load", "text"
    };
    // how often each of the calls is made, in the same order
    private static final int[] OFTEN = {
        4, 6, 8, 4, 3, 2, 5, 8, 3, 2, 9, 6,
        2, 5, 12, 4, 4, 3, 1, 3, 2, 2, 6, 2,
        1, 4, 2, 4
    };
    private static final int RUNS = 3500;
    // an entry that is typed behind clearText, and what is compared then
    private static final int MOST_AT_ONCE = 30;
    private static final int LEFT_FOR_THE_END = 60;
    private static final int[] ODD = {
        Integer.MIN_VALUE, Integer.MAX_VALUE, -1, -2, 8, 9, 11, 12, 13, 16, 21, 51, 5001, 1000001, 10001, 1001, 127, 31
    };

    private final Check check = new Check("ModelTest");
    private final TreeMap<String, Integer> answered = new TreeMap<>();
    private long seed = 1;
    private RoomTails program;
    private Model model;
    private int kind;
    private int made;

    public static void main(String[] args) {
        new ModelTest().runAll();
    }

    private void runAll() {
        for (int run = 0; run < RUNS; run++) {
            check.promise("run " + run);
            oneRun(run);
        }
        for (String call : CALLS) {
            if (!call.equals("text")) {
                check.promise("the random runs");
                check.due(call + " answered no error sometimes", answered.containsKey(call) ? 1 : 0, 1);
            }
        }
        check.end();
    }

    private void oneRun(int run) {
        program = new RoomTails();
        model = new Model();
        kind = run % 7;
        made = 0;
        if (kind == 1) {
            tellNearlyAllEnergy();
        }
        if (kind == 4) {
            passNearlyAllSteps();
        }
        while (made < Calls.MOST - MOST_AT_ONCE - LEFT_FOR_THE_END) {
            oneCall();
            compareOneThing();
        }
        while (made < Calls.MOST) {
            compareOneThing();
        }
    }

    private void tellNearlyAllEnergy() {
        due("room", program.room(100, 7), model.room(100, 7), 100, 7);
        for (int i = 0; i < 44; i++) {
            due("sound", program.sound(0, 9, 20, 1000000), model.sound(0, 9, 20, 1000000), 0, 9, 20, 1000000);
            due("cancel", program.cancel(0), model.cancel(0), 0);
        }
    }

    private void passNearlyAllSteps() {
        for (int i = 0; i < 98; i++) {
            due("pass", program.pass(50), model.pass(50), 50);
        }
    }

    private int random(int least, int most) {
        seed = seed * 6364136223846793005L + 1442695040888963407L;
        return least + (int) Math.floorMod(seed >>> 33, (long) most - least + 1);
    }

    /** Mostly in the range, at its ends more often than elsewhere, and seldom out of it. */
    private int some(int least, int most) {
        int dice = random(0, 59);
        if (dice == 0) {
            return ODD[random(0, ODD.length - 1)];
        }
        if (dice < 5) {
            return dice < 3 ? least : most;
        }
        if (dice == 5) {
            return random(0, 1) == 0 ? least - 1 : most + 1;
        }
        return random(least, Math.max(least, most));
    }

    private int someRoom() {
        return some(0, Math.max(0, model.rooms() - 1));
    }

    private int someDoor() {
        return some(0, Math.max(0, model.doors() - 1));
    }

    private int someStep() {
        int step = model.present() + random(-1, 12);
        return random(0, 15) == 0 ? some(0, 5000) : step;
    }

    private int someEnergy() {
        if (kind == 1) {
            return some(900000, 1000000);
        }
        return random(0, 2) == 0 ? some(1, 1000000) : some(1, 3000);
    }

    private int someVolume() {
        return kind % 2 == 0 ? some(10, 60) : some(10, 10000);
    }

    private int someArea() {
        return kind % 2 == 0 ? some(1, 20) : some(1, 1000);
    }

    private int someAbsorption() {
        return random(0, 2) == 0 ? some(0, 1000) : some(0, 80);
    }

    private String someCall() {
        int dice = random(0, Arrays.stream(OFTEN).sum() - 1);
        int call = 0;
        while (dice >= OFTEN[call]) {
            dice -= OFTEN[call];
            call++;
        }
        return CALLS[call];
    }

    private void due(String call, int got, int want, int... arguments) {
        made++;
        check.due("call " + made + ": " + call + Arrays.toString(arguments), got, want);
        if (want >= 0) {
            answered.merge(call, 1, Integer::sum);
        }
    }

    private void oneCall() {
        String call = model.rooms() < 2 && random(0, 2) > 0 ? "room" : someCall();
        int room = someRoom();
        int door = someDoor();
        switch (call) {
            case "room": case "door": case "open": case "refusal": case "lock": case "set":
            case "undo": case "sound": case "planDoor": case "cancel": case "pass":
                change(call, room, door);
                break;
            case "type": case "clearText": case "fault": case "load": case "text":
                callText(call);
                break;
            default:
                ask(call, room, door);
        }
    }

    private void change(String call, int room, int door) {
        int a = some(0, 10);
        switch (call) {
            case "room":
                int volume = someVolume();
                int absorption = someAbsorption();
                due(call, program.room(volume, absorption), model.room(volume, absorption), volume, absorption);
                break;
            case "door":
                int other = random(0, 3) == 0 ? 8 : someRoom();
                int area = someArea();
                int speed = some(1, 10);
                int delay = some(0, 5);
                due(call, program.door(room, other, area, speed, delay), model.door(room, other, area, speed, delay),
                        room, other, area, speed, delay);
                break;
            case "open":
                due(call, program.open(door, a), model.open(door, a), door, a);
                break;
            case "refusal":
                due(call, program.refusal(door, a), model.refusal(door, a), door, a);
                break;
            case "lock":
                int on = some(0, 1);
                due(call, program.lock(door, on), model.lock(door, on), door, on);
                break;
            case "set":
                int what = some(0, 1);
                int value = random(0, 3) == 0 ? some(0, 1000000) : some(0, 300);
                due(call, program.set(what, value), model.set(what, value), what, value);
                break;
            case "undo":
                due(call, program.undo(), model.undo());
                break;
            case "cancel":
                int index = some(0, 5);
                due(call, program.cancel(index), model.cancel(index), index);
                break;
            case "pass":
                int steps = kind == 3 ? some(40, 50) : random(0, 3) == 0 ? some(1, 50) : some(1, 4);
                due(call, program.pass(steps), model.pass(steps), steps);
                break;
            default:
                changePlan(call, room, door, a);
        }
    }

    private void changePlan(String call, int room, int door, int target) {
        int step = someStep();
        if (call.equals("planDoor")) {
            due(call, program.planDoor(door, step, target), model.planDoor(door, step, target), door, step, target);
            return;
        }
        int steps = some(1, 20);
        int energy = someEnergy();
        due(call, program.sound(room, step, steps, energy), model.sound(room, step, steps, energy),
                room, step, steps, energy);
    }

    private void ask(String call, int room, int door) {
        int what = some(0, 1);
        switch (call) {
            case "roomOf":
                int ofRoom = some(0, 8);
                due(call, program.roomOf(room, ofRoom), model.roomOf(room, ofRoom), room, ofRoom);
                break;
            case "doorOf":
                int ofDoor = some(0, 12);
                due(call, program.doorOf(door, ofDoor), model.doorOf(door, ofDoor), door, ofDoor);
                break;
            case "count":
                int ofAll = some(0, 21);
                due(call, program.count(ofAll), model.count(ofAll), ofAll);
                break;
            case "plan":
                int index = some(0, 15);
                int ofEntry = some(0, 4);
                due(call, program.plan(index, ofEntry), model.plan(index, ofEntry), index, ofEntry);
                break;
            case "way":
                int to = random(0, 2) == 0 ? 8 : someRoom();
                due(call, program.way(room, to), model.way(room, to), room, to);
                break;
            case "tail":
                due(call, program.tail(room), model.tail(room), room);
                break;
            case "tailWith":
                int target = some(0, 10);
                due(call, program.tailWith(room, door, target), model.tailWith(room, door, target), room, door, target);
                break;
            case "bestDoor":
                due(call, program.bestDoor(room, what), model.bestDoor(room, what), room, what);
                break;
            case "rise":
                due(call, program.rise(room), model.rise(room), room);
                break;
            case "peak":
                due(call, program.peak(room, what), model.peak(room, what), room, what);
                break;
            case "quiet":
                due(call, program.quiet(), model.quiet());
                break;
            default:
                int steps = some(1, 32);
                due(call, program.fell(room, steps), model.fell(room, steps), room, steps);
        }
    }

    private void callText(String call) {
        switch (call) {
            case "type":
                type(some(32, 126));
                break;
            case "clearText":
                due(call, program.clearText(), model.clearText());
                break;
            case "fault":
                int what = some(0, 1);
                due(call, program.fault(what), model.fault(what), what);
                break;
            case "load":
                due(call, program.load(), model.load());
                break;
            default:
                typeEntry();
        }
    }

    private void type(int character) {
        due("type", program.type(character), model.type(character), character);
    }

    /** An entry that is mostly right; a call of type for each character. */
    private void typeEntry() {
        if (random(0, 3) == 0) {
            due("clearText", program.clearText(), model.clearText());
        }
        int step = someStep();
        String entry = random(0, 1) == 0
                ? "s" + someRoom() + "@" + step + "*" + some(1, 20) + "=" + someEnergy() + ";"
                : "d" + padded(someDoor()) + "@" + step + ":" + padded(some(0, 10)) + ";";
        int wrong = random(0, 5) == 0 ? random(0, entry.length() - 1) : -1;
        for (int i = 0; i < entry.length(); i++) {
            if (i != wrong) {
                type(entry.charAt(i));
            } else if (random(0, 1) == 0) {
                type(random(32, 126));
            }
        }
    }

    private String padded(int number) {
        return (random(0, 3) == 0 ? "0" : "") + number;
    }

    private void compareOneThing() {
        switch (random(0, 3)) {
            case 0:
                int what = random(0, 12);
                due("count", program.count(what), model.count(what), what);
                break;
            case 1:
                int room = random(0, Math.max(0, model.rooms() - 1));
                int ofRoom = random(0, 8);
                due("roomOf", program.roomOf(room, ofRoom), model.roomOf(room, ofRoom), room, ofRoom);
                break;
            case 2:
                int door = random(0, Math.max(0, model.doors() - 1));
                int ofDoor = random(0, 12);
                due("doorOf", program.doorOf(door, ofDoor), model.doorOf(door, ofDoor), door, ofDoor);
                break;
            default:
                int index = random(0, 5);
                int ofEntry = random(0, 4);
                due("plan", program.plan(index, ofEntry), model.plan(index, ofEntry), index, ofEntry);
        }
    }
}
