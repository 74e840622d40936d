/** The sentences of the document that name boundary cases of texts, each with a test of its own. */
public final class TextsEdgesTest {
    private static final String LEAST = "-2147483648";
    private static final String MOST = "2147483647";
    private static final String SEVENTY_NINE = "d0@9:1;d0@9:2;d0@9:3;d0@9:4;d0@9:5;d0@9:6;d0@9:7;d0@9:8;d0@9:9;d00@09:10;d00@9";

    private final Check check = new Check("TextsEdgesTest");

    public static void main(String[] args) {
        TextsEdgesTest test = new TextsEdgesTest();
        test.lengths();
        test.characters();
        test.emptying();
        test.digits();
        test.semicolons();
        test.positions();
        test.places();
        test.ranges();
        test.presentStep();
        test.entriesAhead();
        test.energyAhead();
        test.firstReason();
        test.askingForFaults();
        test.loading();
        test.loadingNothing();
        test.textsAndUndo();
        test.check.end();
    }

    private Story sentence(String words) {
        check.promise('"' + words + '"');
        return new Story(check);
    }

    /** Two rooms and a door, in the step 3. */
    private Story house(String words) {
        return sentence(words).then("room(10, 0)", "room(10, 0)", "door(0, 8, 1, 1, 0)", "pass(3)");
    }

    private static void isFaultless(Story story, String text, int entries) {
        story.text(text).keeps("fault(0) = -4", "fault(1) = -4").changes("load() = " + entries);
    }

    private static void hasFault(Story story, String text, int position, int reason) {
        story.text(text).keeps("fault(0) = " + position, "fault(1) = " + reason, "load() = -2");
    }

    private void lengths() {
        Story text = sentence("There is a text of at most 80 characters, initially empty")
                .keeps("count(12) = 0", "fault(0) = -4", "clearText() = 0");
        for (int length = 1; length <= 80; length++) {
            text.then("type(" + (31 + length) + ") = " + length);
        }
        text.keeps("count(12) = 80", "type(32) = -3", "type(126) = -3", "type(31) = -1", "type(127) = -1", "type(59) = -3");
        sentence("Returns the length of the text; INVALID_ARGUMENT if character is out of range; LIMIT_REACHED if it has 80 characters.")
                .times(79, "type(65)").then("type(65) = 80").keeps("type(65) = -3", "type(128) = -1")
                .then("clearText() = 80", "type(65) = 1");
        // the last character is part of the text: it is the end of the eleventh entry
        hasFault(house("There is a text of at most 80 characters"), SEVENTY_NINE, 73, 1);
        hasFault(house("There is a text of at most 80 characters"), SEVENTY_NINE + ":", 73, 1);
        isFaultless(house("There is a text of at most 80 characters"),
                        "s0@3*1=0000001;s0@3*1=0000001;s0@3*1=0000001;s0@3*1=0000001;s0@0003*01=0000001;", 5);
        // a character that is refused is not part of it
        house("LIMIT_REACHED if it has 80 characters.").text(SEVENTY_NINE.substring(0, 73)).times(7, "type(48)")
                .then("type(59) = -3").keeps("count(12) = 80", "fault(0) = 73", "fault(1) = 1");
    }

    private void characters() {
        sentence("character: 32 to 126")
                .keeps("type(31) = -1", "type(127) = -1", "type(0) = -1", "type(-1) = -1", "type(-32) = -1",
                        "type(288) = -1", "type(65568) = -1", "type(65651) = -1", "type(" + LEAST + ") = -1",
                        "type(" + MOST + ") = -1")
                .then("type(32) = 1", "type(126) = 2");
        // each of them is one that an entry may consist of, or a fault
        for (int character = 32; character <= 126; character++) {
            boolean isDigit = character >= '0' && character <= '9';
            // where a number begins, and behind its first digit
            for (String begin : new String[] {"d0@", "d0@3"}) {
                String text = begin + (char) character + ":1;";
                new Run(check).after("room(10, 0)", "door(0, 8, 1, 1, 0)").text(text).calls("count(12) = " + text.length(),
                        "fault(1) = " + (isDigit ? -4 : 1), "load() = " + (isDigit ? 1 : -2));
            }
        }
    }

    private void emptying() {
        sentence("Returns the length it had.").keeps("clearText() = 0")
                .then("type(65)", "clearText() = 1", "clearText() = 0").times(80, "type(66)").then("clearText() = 80")
                .keeps("count(12) = 0", "clearText() = 0", "fault(0) = -4").then("type(65) = 1");
        // what was behind a text's end is none of it
        house("Empties the text.").text("d0@9:1;d0@9:2;").text("d0@9:1")
                .keeps("fault(0) = 0", "fault(1) = 1", "load() = -2").then("type(59) = 7").keeps("fault(0) = -4")
                .changes("load() = 1");
        // a fault that was told is forgotten
        check.promise("\"Empties the text.\"");
        new Run(check).text("x").calls("fault(0) = 0", "fault(1) = 1", "clearText() = 1", "fault(0) = -4", "fault(1) = -4", "load() = 0")
                .text("y").calls("load() = -2", "clearText() = 1", "load() = 0");
        house("Empties the text.").text("x").then("clearText()").keeps("fault(0) = -4").changes("load() = 0");
    }

    private void digits() {
        String digits = "Room and door have 1 or 2 digits, the step 1 to 4, steps and target 1 or 2, the energy 1 to 7 digits; zeros in front are allowed.";
        String[] right = {
            "s0@3*1=1;", "s00@3*1=1;", "s01@3*1=1;", "s0@03*1=1;", "s0@003*1=1;", "s0@0003*1=1;", "s0@5000*1=1;",
            "s0@3*01=1;", "s0@3*20=1;", "s0@3*1=01;", "s0@3*1=001;", "s0@3*1=0001;", "s0@3*1=00001;", "s0@3*1=000001;",
            "s0@3*1=0000001;", "s0@3*1=1000000;", "s00@0003*09=0000009;", "d0@3:1;", "d00@3:1;", "d0@03:1;", "d0@003:1;",
            "d0@0003:1;", "d0@3:0;", "d0@3:00;", "d0@3:01;", "d0@3:10;"
        };
        for (String text : right) {
            isFaultless(house(digits), text, 1);
        }
        String[] wrong = {
            "s@3*1=1;", "s000@3*1=1;", "s0@*1=1;", "s0@00003*1=1;", "s0@50000*1=1;", "s0@3*=1;", "s0@3*001=1;", "s0@3*1=;",
            "s0@3*1=00000001;", "d@3:1;", "d000@3:1;", "d0@:1;", "d0@00003:1;", "d0@3:;", "d0@3:001;", "d0@3:010;",
            "s 0@3*1=1;", "s-0@3*1=1;", "s+0@3*1=1;", "d0@3:-1;", "d0@ 3:1;"
        };
        for (String text : wrong) {
            hasFault(house(digits), text, 0, 1);
        }
        // the zeros in front are no part of the number
        house(digits).text("s01@0012*05=0000678;d00@0004:07;").then("load() = 2")
                .keeps("plan(0, 0) = 4", "plan(0, 2) = 0", "plan(0, 4) = 7", "plan(1, 0) = 12", "plan(1, 2) = 1",
                        "plan(1, 3) = 5", "plan(1, 4) = 678", "count(9) = 3390");
    }

    private void semicolons() {
        String form = "1 it is not of this form, its \";\" included";
        String[] wrong = {
            "s0@3*1=1", "d0@3:1", "s", "d", ";", "s;", "d;", "s0;", "s0@;", "s0@3;", "s0@3*;", "s0@3*1;", "s0@3*1=;", "d0;",
            "d0@;", "d0@3;", "d0@3:;", "s0@3*1=1:", "s0@3*1=1,", "s0@3*1=1 ;", "s0@3*1=1:;", "d0@3:1 ;", "d0@3:1=;",
            "s0@3:1;", "d0@3*1=1;", "s0@3*1:1;", "d0@3=1;", "s0@3=1*1;", "S0@3*1=1;", "D0@3:1;", "0@3:1;", " d0@3:1;",
            "dd0@3:1;", "x0@3:1;", "s0,3*1=1;", "s0@3x1=1;"
        };
        for (String text : wrong) {
            hasFault(house(form), text, 0, 1);
        }
        // behind a right entry: the second one begins where the first one ends
        for (String text : wrong) {
            hasFault(house(form), "d0@3:1;" + text, 7, 1);
        }
    }

    private void positions() {
        String sentence = "The fault of the text is the position, from 0, of the first character of the first entry that is not possible";
        hasFault(house(sentence), "x", 0, 1);
        hasFault(house(sentence), "d0@3:1;d1@3:1;", 7, 2);
        hasFault(house(sentence), "d0@3:1;s0@3*1=1;s2@3*1=1;", 16, 2);
        hasFault(house(sentence), "s2@3*1=1;d1@3:1;x", 0, 2);
        hasFault(house(sentence), "d0@3:1;d0@2:1;d0@3:11;", 7, 4);
        hasFault(house(sentence), "d0@3:1;;d0@3:1;", 7, 1);
        hasFault(house(sentence), "d0@3:1; ", 7, 1);
        hasFault(house(sentence), " d0@3:1;", 0, 1);
        // the last position that there is
        hasFault(house(sentence), "s0@0003*01=0000001;s0@0003*01=0000001;s0@0003*01=0000001;s0@0003*01=00001;d0@3:1x", 74, 1);
        hasFault(house(sentence), "s0@0003*01=0000001;s0@0003*01=0000001;s0@0003*01=0000001;s0@0003*01=00001;d0@3:;", 74, 1);
        hasFault(house(sentence), "s0@0003*01=0000001;s0@0003*01=0000001;s0@0003*01=0000001;s00@0003*01=0000001;d", 77, 1);
        hasFault(house(sentence), "s0@0003*01=0000001;s00@0003*01=0000001;s00@0003*01=0000001;s00@0003*01=0000001;;", 79, 1);
    }

    private void places() {
        String sentence = "2 there is no such room or door";
        hasFault(sentence(sentence), "s0@0*1=1;", 0, 2);
        hasFault(sentence(sentence), "d0@0:1;", 0, 2);
        isFaultless(sentence(sentence).then("room(10, 0)"), "s0@0*1=1;", 1);
        hasFault(sentence(sentence).then("room(10, 0)"), "s1@0*1=1;", 0, 2);
        hasFault(sentence(sentence).then("room(10, 0)"), "d0@0:1;", 0, 2);
        isFaultless(house(sentence), "s1@3*1=1;s01@3*1=1;d0@3:1;", 3);
        for (String number : new String[] {"2", "7", "8", "9", "10", "99", "02"}) {
            hasFault(house(sentence), "s" + number + "@3*1=1;", 0, 2);
        }
        for (String number : new String[] {"1", "8", "9", "10", "99", "01"}) {
            hasFault(house(sentence), "d" + number + "@3:1;", 0, 2);
        }
        Story full = sentence(sentence).times(8, "room(20, 0)").times(12, "door(0, 1, 1, 1, 0)");
        isFaultless(full, "s7@0*1=1;d11@0:1;d9@0:1;d10@0:1;", 4);
        hasFault(full, "s8@0*1=1;", 0, 2);
        hasFault(full, "d12@0:1;", 0, 2);
        // it is taken back
        hasFault(house(sentence).then("room(10, 0)", "undo()"), "s2@3*1=1;", 0, 2);
    }

    private void ranges() {
        String sentence = "3 a number is out of its range (steps of the plan: 0 to 5000)";
        String[] right = {
            "s0@5000*1=1;", "s0@3*1=1;", "s0@3*20=1;", "s0@3*1=1000000;", "d0@5000:1;", "d0@3:0;", "d0@3:10;"
        };
        for (String text : right) {
            isFaultless(house(sentence), text, 1);
        }
        String[] wrong = {
            "s0@5001*1=1;", "s0@9999*1=1;", "s0@3*0=1;", "s0@3*00=1;", "s0@3*21=1;", "s0@3*99=1;", "s0@3*1=0;",
            "s0@3*1=0000000;", "s0@3*1=1000001;", "s0@3*1=9999999;", "s0@3*99=9999999;", "d0@5001:1;", "d0@9999:1;",
            "d0@3:11;", "d0@3:99;"
        };
        for (String text : wrong) {
            hasFault(house(sentence), text, 0, 3);
        }
        isFaultless(sentence(sentence).then("room(10, 0)", "door(0, 8, 1, 1, 0)"), "s0@0*1=1;d0@0:0;", 2);
    }

    private void presentStep() {
        String sentence = "4 its step is less than the present one";
        isFaultless(house(sentence), "s0@3*1=1;d0@3:1;s0@4*1=1;", 3);
        for (String text : new String[] {"s0@2*1=1;", "d0@2:1;", "s0@0*20=1;", "d0@0:1;", "s0@0002*1=1;"}) {
            hasFault(house(sentence), text, 0, 4);
        }
        // it becomes a fault, and undo takes it back
        Story late = house(sentence).text("s0@3*1=1;").keeps("fault(1) = -4").then("pass(1)")
                .keeps("fault(0) = 0", "fault(1) = 4", "load() = -2");
        late.then("undo()").keeps("fault(1) = -4").changes("load() = 1");
        Story last = sentence(sentence).then("room(10, 0)").times(100, "pass(50)");
        isFaultless(last, "s0@5000*20=1000000;", 1);
        hasFault(last, "s0@4999*1=1;", 0, 4);
        hasFault(last, "s0@5001*1=1;", 0, 3);
    }

    private void entriesAhead() {
        String sentence = "5 the plan has 16 entries then";
        Story sixteen = house(sentence).times(16, "planDoor(0, 9, 1)");
        hasFault(sixteen, "d0@3:1;", 0, 5);
        hasFault(sixteen, "s0@3*1=1;", 0, 5);
        isFaultless(sixteen, "", 0);
        Story fifteen = house(sentence).times(15, "sound(0, 9, 1, 1)");
        isFaultless(fifteen, "d0@3:1;", 1);
        isFaultless(fifteen, "s0@3*1=1;", 1);
        hasFault(fifteen, "d0@3:1;d0@3:1;", 7, 5);
        hasFault(fifteen, "s0@3*1=1;s0@3*1=1;", 9, 5);
        hasFault(fifteen, "s0@3*1=1;s0@3*1=1;x", 9, 5);
        // eleven entries are the most that a text has
        String eleven = "d0@3:1;d0@3:1;d0@3:1;d0@3:1;d0@3:1;d0@3:1;d0@3:1;d0@3:1;d0@3:1;d0@3:1;d0@3:1;";
        isFaultless(house(sentence), eleven, 11);
        isFaultless(house(sentence).times(5, "planDoor(0, 9, 1)"), eleven, 11);
        hasFault(house(sentence).times(6, "planDoor(0, 9, 1)"), eleven, 70, 5);
        hasFault(house(sentence).times(7, "planDoor(0, 9, 1)"), eleven, 63, 5);
        // loaded twice it would not find place again
        house(sentence).text(eleven).then("load() = 11").keeps("fault(0) = 35", "fault(1) = 5", "load() = -2")
                .times(6, "cancel(0)").keeps("fault(0) = -4").changes("load() = 11");
    }

    private Story nearlyAllEnergy() {
        return house("6 the energy of all sounds would be too great, the last two with the entries ahead of it.").times(49,
                        "sound(0, 9, 20, 1000000)", "cancel(0)");
    }

    private void energyAhead() {
        isFaultless(nearlyAllEnergy(), "s0@3*20=1000000;", 1);
        isFaultless(nearlyAllEnergy(), "s0@3*19=1000000;s0@3*1=999999;s0@3*1=1;d0@3:1;", 4);
        hasFault(nearlyAllEnergy(), "s0@3*20=1000000;s0@3*1=1;", 16, 6);
        hasFault(nearlyAllEnergy(), "s0@3*1=1;s0@3*20=1000000;", 9, 6);
        hasFault(nearlyAllEnergy(), "s0@3*1=1;d0@3:1;s0@3*20=1000000;s0@3*1=1;", 16, 6);
        hasFault(nearlyAllEnergy(), "s0@3*20=999999;s0@3*7=3;", 15, 6);
        isFaultless(nearlyAllEnergy(), "s0@3*20=999999;s0@3*5=4;", 2);
        Story all = nearlyAllEnergy().then("sound(0, 9, 20, 1000000)");
        hasFault(all, "s0@3*1=1;", 0, 6);
        isFaultless(all, "d0@3:1;", 1);
        hasFault(all, "d0@3:1;s0@3*1=1;", 7, 6);
        // loaded once it is told, and cannot be told once more
        nearlyAllEnergy().text("s0@3*10=1000000;s0@3*1=1;").then("load() = 2")
                .keeps("count(9) = 990000001", "fault(0) = 0", "fault(1) = 6");
    }

    private void firstReason() {
        String sentence = "its reason is the first of these";
        hasFault(house(sentence), "s2@5001*0=0", 0, 1);
        hasFault(house(sentence), "s2@5001*0=0;", 0, 2);
        hasFault(house(sentence), "s2@2*1=1;", 0, 2);
        hasFault(house(sentence), "s0@2*0=1;", 0, 3);
        hasFault(house(sentence), "d1@2:11;", 0, 2);
        hasFault(house(sentence), "d0@2:11;", 0, 3);
        Story full = nearlyAllEnergy().then("sound(0, 9, 20, 1000000)").times(15, "planDoor(0, 9, 1)");
        check.promise("\"" + sentence + "\"");
        hasFault(full, "s0@3*1=1;", 0, 5);
        hasFault(full, "s0@2*1=1;", 0, 4);
        hasFault(full, "s0@2*21=1;", 0, 3);
        hasFault(full, "s2@2*21=1;", 0, 2);
        hasFault(full, "s2@2*21=1:", 0, 1);
        hasFault(full.then("cancel(15)"), "s0@3*1=1;", 0, 6);
    }

    private void askingForFaults() {
        sentence("INVALID_ARGUMENT if what is out of range; NOT_FOUND if the text has no fault (also if it is empty).")
                .keeps("fault(0) = -4", "fault(1) = -4", "fault(-1) = -1", "fault(2) = -1", "fault(" + LEAST + ") = -1",
                        "fault(" + MOST + ") = -1")
                .text("x").keeps("fault(0) = 0", "fault(1) = 1", "fault(2) = -1", "fault(-1) = -1");
    }

    private void loading() {
        house("Adds all entries of the text to the plan, in their order; the text stays.")
                .then("sound(1, 4, 1, 50)", "planDoor(0, 5, 3)").text("s0@5*2=100;d0@4:9;s1@4*03=7;").changes("load() = 3")
                .then("load() = 3")
                .keeps("count(12) = 28", "count(2) = 5", "count(9) = 271", "plan(0, 4) = 50", "plan(1, 4) = 9",
                        "plan(2, 4) = 7", "plan(3, 4) = 3", "plan(4, 4) = 100", "fault(0) = -4")
                .changes("load() = 3").then("load() = 3")
                .keeps("plan(3, 4) = 9", "plan(4, 4) = 7", "plan(6, 4) = 100", "plan(7, 4) = 100", "count(9) = 492");
        // of equal steps the ones of the text come in its order, behind those that were told ahead of it
        house("Adds all entries of the text to the plan, in their order").then("planDoor(0, 3, 5)")
                .text("d0@3:6;d0@3:7;d0@3:8;").then("load() = 3")
                .keeps("plan(0, 4) = 5", "plan(1, 4) = 6", "plan(2, 4) = 7", "plan(3, 4) = 8").then("pass(1)")
                .keeps("doorOf(0, 6) = 8", "count(2) = 0", "fault(1) = 4");
        house("NOT_POSSIBLE if it has a fault.").text("d0@4:1;d0@4:2;x")
                .keeps("load() = -2", "count(2) = 0", "count(9) = 0");
        // an entry that is told or cancelled by other calls is none of the text
        house("the text stays").text("s1@4*2=7;").then("load() = 1", "cancel(0) = 0")
                .keeps("count(9) = 14", "count(12) = 9").changes("load() = 1");
    }

    private void loadingNothing() {
        sentence("They are one change, also if there are none.").changes("load() = 0").then("load()")
                .keeps("count(11) = 1", "count(2) = 0").changes("load() = 0").then("load()", "load()", "load()")
                .keeps("count(11) = 4").changes("load() = 0").then("load()").keeps("count(11) = 4");
        house("They are one change").text("d0@4:1;d0@4:2;d0@4:3;d0@4:4;d0@4:5;").changes("load() = 5").then("load()")
                .keeps("count(2) = 5").then("undo() = 3").keeps("count(2) = 0", "fault(0) = -4");
    }

    private void textsAndUndo() {
        house("each change records everything before it but the text").text("d0@4:1;").then("load()")
                .text("d0@4:2;d0@4:3;").then("undo() = 3").keeps("count(12) = 14", "count(2) = 0", "fault(0) = -4")
                .changes("load() = 2").then("clearText()", "undo() = 2").keeps("count(12) = 0");
    }
}
