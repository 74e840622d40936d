/** The sentences of the document about changes, the history and errors, at their edges, each with a test of its own. */
public final class HistoryEdgesTest {
    private static final String[] BUSY = {"room(100, 10)", "room(50, 0)", "door(0, 1, 20, 3, 2)", "door(1, 8, 7, 4, 1)",
                    "sound(0, 0, 4, 1000)",
        "sound(1, 2, 5, 500)", "planDoor(1, 6, 8)", "planDoor(0, 1, 9)", "open(1, 5)", "pass(3)"};

    private final Check check = new Check("HistoryEdgesTest");

    public static void main(String[] args) {
        HistoryEdgesTest test = new HistoryEdgesTest();
        test.changes();
        test.othersAreNone();
        test.fourStates();
        test.fifthState();
        test.emptyHistory();
        test.everythingIsRestored();
        test.stepsAreRestored();
        test.undoneChangesComeAgain();
        test.refusedCalls();
        test.orderOfErrors();
        test.lastPromisedCall();
        test.check.end();
    }

    private Story sentence(String words) {
        check.promise('"' + words + '"');
        return new Story(check);
    }

    private void changes() {
        String sentence = "The changes are the calls of room, door, open, lock, sound, planDoor, cancel, set, pass and load that return no error.";
        String[] changes = {
            "room(77, 7) = 2", "door(1, 0, 3, 4, 5) = 2", "open(0, 2) = 9", "lock(1, 1) = 5", "sound(1, 9, 3, 5) = 4",
            "planDoor(1, 3, 2) = 4", "cancel(1) = 2", "set(0, 44) = 1000000", "set(1, 44) = 10", "pass(1) = 4",
            "pass(50) = 53", "load() = 2"
        };
        // behind a full history, and behind none to three states
        sentence(sentence).then(BUSY).text("s0@9*1=5;d0@9:1;").keeps("count(11) = 4", "count(2) = 3").changes(changes);
        for (int undos = 1; undos <= 4; undos++) {
            sentence(sentence).then(BUSY).times(4, "set(0, 1000000)").then("type(33)").times(undos, "undo()")
                    .then("clearText()").text("s0@9*1=5;d0@9:1;").keeps("count(11) = " + (4 - undos)).changes(changes);
        }
        // changes that leave everything as it is are changes, too
        sentence(sentence).then("room(10, 0)").changes("set(1, 10) = 10", "load() = 0", "pass(1) = 1");
        sentence(sentence).then("room(10, 0)", "door(0, 8, 1, 1, 0)").changes("lock(0, 1) = 0", "planDoor(0, 5000, 0) = 1");
    }

    private void othersAreNone() {
        Story busy = sentence("The changes are the calls of").then(BUSY).text("s0@9*1=5;");
        String[] others = {
            "refusal(0, 3)", "roomOf(0, 2)", "doorOf(0, 9)", "count(4)", "plan(0, 0)", "way(0, 8)", "tail(0)",
            "tailWith(0, 1, 10)", "bestDoor(0, 0)", "rise(0)", "peak(1, 1)", "quiet()", "fell(0, 1)", "fault(0)"
        };
        for (String call : others) {
            busy.keeps(call + " = " + busy.answerTo(call));
        }
        // texts are no changes either
        busy.then("undo() = 3", "type(65) = 10", "clearText() = 10", "clearText() = 0").keeps("count(11) = 3")
                .then("undo() = 2", "type(66) = 1").keeps("count(11) = 2", "count(12) = 1");
    }

    private void fourStates() {
        Story four = sentence("A history of at most 4 states is kept");
        for (int change = 0; change < 9; change++) {
            four.keeps("count(11) = " + Math.min(4, change)).then("set(1, " + (20 + change) + ")");
        }
        four.keeps("count(11) = 4", "count(21) = 28").then("undo() = 3").keeps("count(21) = 27").then("undo() = 2")
                .keeps("count(21) = 26").then("undo() = 1").keeps("count(21) = 25").then("undo() = 0")
                .keeps("count(21) = 24", "undo() = -2", "count(11) = 0");
    }

    private void fifthState() {
        String sentence = "if there are 5 states then, the oldest one is dropped";
        String[] rooms = {"room(10, 0)", "room(20, 0)", "room(30, 0)", "room(40, 0)"};
        sentence(sentence).then(rooms).then("undo() = 3", "undo() = 2", "undo() = 1", "undo() = 0")
                .keeps("count(0) = 0", "undo() = -2");
        sentence(sentence).then(rooms).then("room(50, 0) = 4", "undo() = 3", "undo() = 2", "undo() = 1", "undo() = 0")
                .keeps("count(0) = 1", "roomOf(0, 0) = 10", "undo() = -2");
        // dropped, undone and changed again
        sentence(sentence).then(rooms)
                .then("room(50, 0)", "room(60, 0)", "undo() = 3", "undo() = 2", "room(70, 0) = 4", "room(80, 0) = 5")
                .keeps("count(11) = 4").then("undo() = 3").keeps("count(0) = 5", "roomOf(4, 0) = 70", "roomOf(3, 0) = 40")
                .then("undo() = 2").keeps("count(0) = 4").then("undo() = 1").keeps("count(0) = 3").then("undo() = 0")
                .keeps("count(0) = 2", "roomOf(1, 0) = 20", "undo() = -2");
    }

    private void emptyHistory() {
        sentence("Returns the number of states that are left in the history; NOT_POSSIBLE if it is empty.")
                .keeps("undo() = -2").then("type(65)").keeps("undo() = -2", "count(12) = 1")
                .then("room(10, 0)", "undo() = 0").keeps("undo() = -2", "count(0) = 0")
                .then("room(9, 0)", "set(0, -1)", "pass(0)").keeps("undo() = -2");
        // undo is no change: there is no way back from it
        sentence("Restores the latest state of the history, which is removed from it.")
                .then("room(10, 0)", "room(20, 0)", "undo() = 1", "undo() = 0").keeps("undo() = -2", "count(0) = 0");
    }

    private void everythingIsRestored() {
        String sentence = "each change records everything before it but the text";
        // what each of the changes made is as it was: see what Story asks
        Story busy = sentence(sentence).then(BUSY);
        busy.goesOn("room(60, 3) = 2", "door(2, 0, 5, 10, 1) = 2", "open(2, 10) = 0", "sound(2, 3, 20, 40) = 4",
                        "pass(2) = 5", "lock(0, 1) = 9", "lock(2, 1) = 10", "planDoor(2, 5, 3) = 4", "cancel(0) = 3",
                        "set(0, 3) = 1000000", "set(1, 3) = 10", "pass(50) = 55", "lock(2, 0) = 10", "room(88, 1) = 3");
        busy.text("s3@60*2=7;").goesOn("load() = 1", "pass(1) = 56");
        // the text is as it is
        sentence("but the text").then("type(65)", "room(10, 0)", "type(66)", "room(20, 0)", "type(67)", "undo() = 1")
                .keeps("count(12) = 3").then("clearText() = 3", "undo() = 0").keeps("count(12) = 0");
    }

    private void stepsAreRestored() {
        String sentence = "each change records everything before it but the text";
        // on its way, absorbed, given, escaped, opened amid a sound, gone through
        Story running = sentence(sentence)
                .then("room(20, 100)", "room(30, 7)", "door(0, 8, 10, 3, 1)", "door(1, 0, 10, 10, 5)",
                        "planDoor(0, 0, 10)", "planDoor(1, 2, 5)", "sound(0, 0, 12, 100)", "sound(1, 1, 3, 999)");
        for (int step = 1; step <= 14; step++) {
            running.goesOn("pass(1) = " + step);
        }
        running.changes("pass(50) = 64", "pass(32) = 46", "pass(31) = 45", "pass(33) = 47");
        Story late = sentence(sentence)
                .then("room(10, 500)", "sound(0, 0, 1, 524288)", "pass(33)", "sound(0, 33, 1, 8)", "pass(1)");
        late.changes("pass(50) = 84").then("pass(50)", "undo()")
                .keeps("fell(0, 32) = 115", "fell(0, 1) = -4", "roomOf(0, 4) = 2");
    }

    private void undoneChangesComeAgain() {
        sentence("Restores the latest state of the history").then("room(10, 0)", "room(20, 5)", "undo()")
                .changes("room(30, 6) = 1").then("room(30, 6)")
                .keeps("roomOf(1, 0) = 30", "roomOf(1, 1) = 6", "roomOf(1, 2) = 0", "roomOf(1, 7) = 0");
        // nothing is left of a door that was open, locked and gone through, and of a room that was loud
        sentence("Restores the latest state of the history").then("room(10, 0)", "door(0, 8, 5, 10, 5)")
                .text("s0@0*1=90;d0@0:7;")
                .then("load() = 2", "pass(1)", "lock(0, 1) = 7", "undo() = 3", "undo() = 2", "undo() = 1", "undo() = 0")
                .keeps("count(1) = 0", "roomOf(0, 2) = 0", "roomOf(0, 7) = 0").goesOn("door(0, 8, 6, 1, 0) = 0")
                .keeps("doorOf(0, 5) = 0", "doorOf(0, 6) = 0", "doorOf(0, 7) = 0", "doorOf(0, 8) = 0", "doorOf(0, 9) = 0",
                        "count(5) = 0");
        sentence("Restores the latest state of the history")
                .then("room(10, 0)", "door(0, 8, 5, 10, 5)", "open(0, 10)", "lock(0, 1)", "undo()", "undo()", "undo()")
                .goesOn("door(0, 8, 6, 1, 0) = 0")
                .keeps("doorOf(0, 2) = 6", "doorOf(0, 3) = 1", "doorOf(0, 4) = 0", "doorOf(0, 5) = 0", "doorOf(0, 6) = 0",
                        "doorOf(0, 7) = 0", "doorOf(0, 8) = 0", "doorOf(0, 9) = 0");
        // other steps than those that were undone
        sentence("Restores the latest state of the history")
                .then("room(10, 500)", "sound(0, 0, 1, 64)", "pass(1)", "sound(0, 1, 1, 1000000)", "pass(1)", "undo()",
                        "undo()", "pass(1)")
                .keeps("roomOf(0, 2) = 16", "fell(0, 1) = 101", "roomOf(0, 6) = 64", "count(9) = 64", "count(8) = 64");
    }

    /** Each call with each error that it can return, in a house without a history and in one with a full one. */
    private void refusedCalls() {
        String[] errors = {
            "room(9, 0) = -1", "door(0, 0, 1, 1, 0) = -1", "door(0, 1, 81, 1, 0) = -2", "door(1, 8, 24, 1, 0) = -2",
            "open(0, 11) = -1", "open(0, 9) = -2", "refusal(2, 0) = -1", "lock(0, 2) = -1", "lock(0, 0) = -2",
            "set(0, -1) = -1", "set(2, 0) = -1", "roomOf(2, 0) = -1", "roomOf(0, 9) = -1", "doorOf(2, 0) = -1",
            "doorOf(0, 13) = -1", "count(13) = -1", "sound(0, 5, 0, 5) = -1", "sound(0, 2, 1, 5) = -2",
            "planDoor(0, 5, 11) = -1", "planDoor(0, 2, 1) = -2", "cancel(3) = -1", "cancel(-1) = -1", "plan(-1, 0) = -1",
            "plan(3, 0) = -4", "pass(0) = -1", "pass(51) = -1", "way(2, 0) = -1", "tail(2) = -1", "tailWith(0, 2, 0) = -1",
            "bestDoor(0, 2) = -1", "rise(2) = -1", "peak(0, 2) = -1", "fell(0, 0) = -1", "fell(0, 4) = -2",
            "fell(0, 3) = -4", "type(31) = -1", "fault(2) = -1", "load() = -2"
        };
        sentence("A call that returns an error changes nothing.").then(BUSY).text("d0@9:1;s0").keeps("count(11) = 4")
                .keeps(errors);
        // full of rooms, doors, entries, characters
        Story full = sentence("A call that returns an error changes nothing.").times(8, "room(30, 5)")
                .times(12, "door(0, 1, 1, 1, 0)").then("pass(1)").times(14, "planDoor(3, 8, 4)")
                .then("sound(0, 1, 3, 70)", "sound(1, 1, 2, 50)", "pass(1)", "type(115)").times(79, "type(48)");
        full.keeps("room(10, 0) = -3", "door(2, 3, 1, 1, 0) = -3", "sound(0, 5, 1, 1) = -3", "planDoor(0, 5, 1) = -3",
                        "type(59) = -3", "load() = -2", "fault(2) = -1", "cancel(16) = -1", "plan(16, 0) = -4",
                        "way(0, 1) = -4", "tail(2) = -2", "fell(2, 1) = -4");
        Story empty = sentence("A call that returns an error changes nothing.");
        empty.keeps("undo() = -2", "room(9, 0) = -1", "door(0, 8, 1, 1, 0) = -1", "open(0, 0) = -1", "lock(0, 1) = -1",
                        "set(0, -1) = -1", "sound(0, 0, 1, 1) = -1", "planDoor(0, 0, 0) = -1", "cancel(0) = -1",
                        "plan(0, 0) = -4", "pass(0) = -1", "type(31) = -1");
    }

    private void orderOfErrors() {
        String sentence = "If several errors apply to a call, INVALID_ARGUMENT is returned rather than NOT_POSSIBLE, NOT_POSSIBLE rather than LIMIT_REACHED, and LIMIT_REACHED rather than NOT_FOUND.";
        Story full = sentence(sentence).then("room(12, 0)", "room(100, 0)").times(6, "room(10, 0)")
                .times(12, "door(0, 1, 1, 1, 0)");
        full.keeps("room(9, 0) = -1", "room(10, 1001) = -1", "room(10, 0) = -3", "door(0, 1, 1, 1, 0) = -2",
                        "door(0, 1, 1, 1, 6) = -1", "door(0, 0, 1, 1, 0) = -1", "door(1, 2, 1, 1, 0) = -3",
                        "door(1, 2, 11, 1, 0) = -2", "door(1, 2, 11, 0, 0) = -1", "door(1, 9, 11, 1, 0) = -1");
        full.times(11, "type(65)").times(69, "type(66)").keeps("type(31) = -1", "type(127) = -1", "type(65) = -3");
        // refused and out of range, locked so already and out of range
        sentence(sentence).then("room(10, 0)", "door(0, 8, 1, 1, 0)", "lock(0, 1)")
                .keeps("open(0, 11) = -1", "open(0, 0) = -2", "open(1, 0) = -1", "lock(0, 2) = -1", "lock(1, 1) = -1",
                        "lock(0, 1) = -2");
        // without energy, not there yet, out of range
        sentence(sentence).then("pass(2)", "room(10, 0)", "door(0, 8, 1, 1, 0)", "pass(1)")
                .keeps("fell(0, 2) = -2", "fell(0, 1) = -4", "fell(0, 33) = -1", "fell(1, 2) = -1", "tail(0) = -2",
                        "tail(1) = -1", "tailWith(0, 0, 11) = -1", "bestDoor(0, 2) = -1", "plan(0, 5) = -1",
                        "plan(0, 0) = -4", "way(0, 1) = -1", "way(0, 8) = -4", "fault(2) = -1", "fault(1) = -4",
                        "roomOf(0, 4) = -4", "roomOf(1, 4) = -1");
    }

    private void lastPromisedCall() {
        sentence("An object is used for at most 512 calls after it has been made");
        new Run(check).times(511, "set(0, 5)").calls("set(0, 6) = 5");
        new Run(check).after("room(10, 0)").times(510, "roomOf(0, 0)").calls("room(20, 0) = 1");
        new Run(check).times(255, "room(10, 0)", "undo()").calls("room(20, 0) = 0", "roomOf(0, 0) = 20");
        new Run(check).times(80, "type(65)").times(431, "fault(0)").calls("clearText() = 80");
        new Run(check).after("room(10, 0)", "sound(0, 0, 1, 9)").times(100, "pass(50)").times(409, "count(3)")
                .calls("roomOf(0, 2) = 9");
    }
}
