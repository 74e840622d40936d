/** Promises 1 to 11, each by ordinary calls, at its edges and with wrong arguments. */
public final class RoomsAndDoorsTest {
    private static final String LEAST = "-2147483648";
    private static final String MOST = "2147483647";

    private final Check check = new Check("RoomsAndDoorsTest");

    public static void main(String[] args) {
        RoomsAndDoorsTest test = new RoomsAndDoorsTest();
        test.newObject();
        test.rooms();
        test.doors();
        test.fullHouse();
        test.opening();
        test.refusing();
        test.locking();
        test.settings();
        test.thingsOfARoom();
        test.thingsOfADoor();
        test.energyThroughADoorWraps();
        test.counts();
        test.undoing();
        test.undoingSteps();
        test.everyChangeIsRecorded();
        test.errorsAreNoChanges();
        test.check.end();
    }

    private Run promise(int number) {
        check.promise("promise " + number);
        return new Run(check);
    }

    private void newObject() {
        Run run = promise(1);
        for (int what = 0; what <= 12; what++) {
            run.calls("count(" + what + ") = 0");
        }
        run.calls("count(20) = 1000000", "count(21) = 10", "undo() = -2", "quiet() = 0", "plan(0, 0) = -4",
                "roomOf(0, 0) = -1", "doorOf(0, 0) = -1", "fault(0) = -4", "clearText() = 0");
    }

    private void rooms() {
        promise(2).calls("room(9, 0) = -1", "room(10001, 0) = -1", "room(10, -1) = -1", "room(10, 1001) = -1",
                "room(" + LEAST + ", 0) = -1", "room(10, " + MOST + ") = -1", "count(0) = 0",
                "room(10, 0) = 0", "room(10000, 1000) = 1", "room(77, 5) = 2",
                "roomOf(0, 0) = 10", "roomOf(1, 0) = 10000", "roomOf(1, 1) = 1000", "roomOf(2, 1) = 5", "count(0) = 3")
            .times(4, "room(10, 0)")
            .calls("room(10, 0) = 7", "room(10, 0) = -3", "room(9, 0) = -1", "count(0) = 8", "roomOf(8, 0) = -1");
    }

    private void doors() {
        promise(3).after("room(10, 0)", "room(30, 0)", "room(1000, 0)").calls(
                "door(-1, 1, 5, 5, 0) = -1", "door(3, 1, 5, 5, 0) = -1", "door(8, 1, 5, 5, 0) = -1",
                "door(0, 0, 5, 5, 0) = -1", "door(0, 3, 5, 5, 0) = -1", "door(0, 7, 5, 5, 0) = -1",
                "door(0, 9, 5, 5, 0) = -1", "door(0, -1, 5, 5, 0) = -1", "door(0, 1, 0, 5, 0) = -1",
                "door(0, 1, 1001, 5, 0) = -1", "door(0, 1, 5, 0, 0) = -1", "door(0, 1, 5, 11, 0) = -1",
                "door(0, 1, 5, 5, -1) = -1", "door(0, 1, 5, 5, 6) = -1", "door(0, 1, " + MOST + ", 5, 5) = -1",
                "count(1) = 0",
                "door(0, 1, 11, 5, 0) = -2", "door(1, 0, 11, 5, 0) = -2", "door(0, 1, 9, 1, 5) = 0",
                "door(0, 8, 2, 10, 0) = -2", "door(1, 0, 2, 10, 0) = -2", "door(0, 8, 1, 10, 0) = 1",
                "door(2, 0, 1, 1, 1) = -2", "door(1, 2, 22, 1, 1) = -2", "door(2, 1, 21, 1, 1) = 2",
                "door(1, 8, 1, 1, 1) = -2", "door(2, 8, 979, 1, 1) = 3", "count(1) = 4",
                "doorOf(0, 0) = 0", "doorOf(0, 1) = 1", "doorOf(0, 2) = 9", "doorOf(0, 3) = 1", "doorOf(0, 4) = 5",
                "doorOf(3, 0) = 2", "doorOf(3, 1) = 8", "doorOf(3, 2) = 979", "doorOf(0, 5) = 0", "doorOf(0, 6) = 0");
        promise(3).after("room(1000, 0)").calls("door(0, 8, 1000, 1, 0) = 0", "door(0, 8, 1, 1, 0) = -2");
    }

    private void fullHouse() {
        promise(3).after("room(12, 0)", "room(100, 0)").times(12, "door(0, 1, 1, 1, 0)").calls("count(1) = 12",
                "door(1, 8, 1, 1, 0) = -3", "door(1, 0, 1, 1, 0) = -2", "door(1, 1, 1, 1, 0) = -1",
                "doorOf(11, 2) = 1", "doorOf(12, 2) = -1");
        Run run = promise(3).times(8, "room(50, 0)");
        run.calls("door(7, 8, 50, 1, 0) = 0", "doorOf(0, 1) = 8", "door(7, 0, 1, 1, 0) = -2", "door(6, 0, 1, 1, 0) = 1");
    }

    private void opening() {
        promise(4).after("room(10, 0)", "door(0, 8, 1, 4, 0)").calls(
                "open(-1, 0) = -1", "open(1, 0) = -1", "open(0, -1) = -1", "open(0, 11) = -1", "open(0, 0) = -2",
                "open(0, 10) = 0", "open(0, 10) = -2", "doorOf(0, 5) = 0", "doorOf(0, 6) = 10", "open(0, 7) = 10",
                "pass(1) = 1", "doorOf(0, 5) = 4", "pass(1) = 2", "doorOf(0, 5) = 7", "pass(1) = 3", "doorOf(0, 5) = 7",
                "open(0, 1) = 7", "pass(1) = 4", "doorOf(0, 5) = 3", "pass(1) = 5", "doorOf(0, 5) = 1",
                "lock(0, 1) = 1", "open(0, 5) = -2", "open(0, 11) = -1", "lock(0, 0) = 1", "open(0, 5) = 1");
    }

    private void refusing() {
        promise(5).after("room(10, 0)", "room(20, 0)", "door(0, 1, 5, 10, 0)", "door(8, 0, 1, 1, 0)", "door(1, 8, 5, 2, 0)",
                "sound(0, 0, 1, 109)", "sound(1, 0, 1, 139)", "pass(1)").calls(
                "roomOf(0, 3) = 10", "roomOf(1, 3) = 6",
                "refusal(2, 0) = -1", "refusal(-1, 0) = -1", "refusal(0, 11) = -1", "refusal(0, -1) = -1",
                "refusal(0, 0) = 2", "refusal(0, 1) = 0", "set(0, 4) = 1000000", "refusal(0, 10) = 0",
                "set(0, 3) = 4", "refusal(0, 10) = 3", "open(0, 10) = -2", "refusal(0, 0) = 2",
                "set(0, 6) = 3", "refusal(1, 5) = 0", "set(0, 5) = 6", "refusal(1, 5) = 3", "refusal(1, 0) = 2",
                "planDoor(1, 1, 5) = 1", "pass(1) = 2", "doorOf(1, 5) = 2", "doorOf(1, 6) = 5",
                "refusal(1, 5) = 2", "set(0, 0) = 5", "refusal(1, 3) = 3", "refusal(1, 2) = 0", "refusal(1, 1) = 0",
                "lock(1, 1) = 2", "refusal(1, 2) = 1", "refusal(1, 3) = 1", "refusal(1, 0) = 1", "refusal(1, 11) = -1",
                "lock(1, 0) = 2", "refusal(1, 2) = 2");
    }

    private void locking() {
        promise(6).after("room(10, 0)", "door(0, 8, 1, 3, 0)").calls(
                "lock(-1, 1) = -1", "lock(1, 1) = -1", "lock(0, 2) = -1", "lock(0, -1) = -1", "lock(0, 0) = -2",
                "doorOf(0, 7) = 0", "open(0, 10) = 0", "pass(1) = 1", "lock(0, 1) = 3", "doorOf(0, 7) = 1",
                "doorOf(0, 6) = 3", "lock(0, 1) = -2", "planDoor(0, 1, 9) = 1", "planDoor(0, 3, 9) = 2",
                "pass(2) = 3", "count(2) = 1", "doorOf(0, 5) = 3", "doorOf(0, 6) = 3", "lock(0, 0) = 3",
                "doorOf(0, 7) = 0", "doorOf(0, 6) = 3", "lock(0, 0) = -2", "pass(1) = 4", "doorOf(0, 5) = 6",
                "doorOf(0, 6) = 9");
    }

    private void settings() {
        promise(7).calls("set(-1, 0) = -1", "set(2, 0) = -1", "set(0, -1) = -1", "set(0, 1000001) = -1",
                "set(1, -1) = -1", "set(1, 1000001) = -1", "set(20, 5) = -1", "count(11) = 0",
                "set(0, 0) = 1000000", "set(1, 1000000) = 10", "set(0, 1000000) = 0", "set(1, 0) = 1000000",
                "count(20) = 1000000", "count(21) = 0", "set(1, 0) = 0", "count(11) = 4");
    }

    private void thingsOfARoom() {
        promise(8).after("room(100, 10)", "room(50, 0)", "door(0, 1, 5, 10, 0)", "door(1, 8, 5, 10, 0)", "door(8, 0, 5, 1, 0)",
                "sound(0, 0, 3, 1000)", "sound(0, 1, 1, 24)", "sound(1, 1, 1, 5)", "sound(0, 3, 1, 1)").calls(
                "roomOf(-1, 0) = -1", "roomOf(2, 0) = -1", "roomOf(8, 0) = -1", "roomOf(0, -1) = -1", "roomOf(0, 9) = -1",
                "roomOf(0, 0) = 100", "roomOf(0, 1) = 10", "roomOf(0, 2) = 0", "roomOf(0, 3) = 0", "roomOf(0, 4) = -4",
                "roomOf(0, 5) = 0", "roomOf(0, 6) = 0", "roomOf(0, 7) = 1", "roomOf(1, 7) = 2", "roomOf(0, 8) = 1",
                "roomOf(1, 8) = 0", "pass(1) = 1", "roomOf(0, 8) = 2", "roomOf(1, 8) = 1",
                // 1000 - 10
                "roomOf(0, 2) = 990", "roomOf(0, 3) = 9", "roomOf(0, 4) = 9", "roomOf(0, 5) = 10", "roomOf(0, 6) = 1000",
                // 990 + 1024 = 2014, rounded up 21 are absorbed
                "pass(1) = 2", "roomOf(0, 2) = 1993", "roomOf(0, 5) = 31", "roomOf(0, 6) = 2024", "roomOf(0, 4) = 10",
                "roomOf(0, 8) = 1", "roomOf(1, 2) = 5", "roomOf(1, 4) = 2", "roomOf(1, 5) = 0", "roomOf(1, 6) = 5",
                "pass(1) = 3", "roomOf(0, 8) = 1", "pass(1) = 4", "roomOf(0, 8) = 0");
        promise(8).after("room(10, 0)", "sound(0, 0, 1, 1)", "sound(0, 1, 1, 1)", "sound(0, 2, 1, 1)", "sound(0, 3, 1, 1)",
                "pass(1)").calls("roomOf(0, 4) = 0", "pass(1) = 2", "roomOf(0, 4) = 1", "pass(1) = 3", "roomOf(0, 4) = 1",
                "pass(1) = 4", "roomOf(0, 4) = 2");
        promise(8).after("room(10, 0)").times(16, "sound(0, 0, 20, 1000000)").after("pass(20)").calls(
                "roomOf(0, 2) = 320000000", "roomOf(0, 3) = 32000000", "roomOf(0, 4) = 28");
        Run most = promise(8).after("room(10, 0)");
        for (int step = 0; step < 60; step += 20) {
            most.times(16, "sound(0, " + step + ", 20, 1000000)").after("pass(20)");
        }
        most.times(2, "sound(0, 60, 20, 1000000)").after("pass(20)").calls("roomOf(0, 2) = 1000000000", "roomOf(0, 4) = 29",
                "roomOf(0, 6) = 1000000000", "count(9) = 1000000000", "count(4) = 1000000000", "sound(0, 80, 1, 1) = -3");
    }

    private void thingsOfADoor() {
        promise(9).after("room(100, 0)", "room(50, 0)", "door(0, 1, 20, 10, 2)", "door(1, 8, 7, 4, 0)",
                "sound(0, 0, 1, 1000)", "sound(1, 0, 1, 99)", "open(0, 10)", "open(1, 10)").calls(
                "doorOf(-1, 0) = -1", "doorOf(2, 0) = -1", "doorOf(0, -1) = -1", "doorOf(0, 13) = -1",
                "doorOf(1, 0) = 1", "doorOf(1, 1) = 8", "doorOf(1, 2) = 7", "doorOf(1, 3) = 4", "doorOf(1, 4) = 0",
                "doorOf(0, 4) = 2", "doorOf(0, 11) = 0", "pass(1) = 1",
                // 1000 * 20 * 10 / 1000 = 200 and 99 * 20 * 10 / 500 = 39; 99 * 7 * 4 / 500 = 5
                "doorOf(0, 5) = 10", "doorOf(1, 5) = 4", "doorOf(1, 6) = 10", "doorOf(0, 9) = 200", "doorOf(0, 10) = 39",
                "doorOf(0, 8) = 239", "doorOf(1, 8) = 0", "doorOf(1, 9) = 5", "doorOf(1, 10) = 0",
                // 800 * 20 * 10 / 1000 and 55 * 20 * 10 / 500; 55 * 7 * 4 / 500
                "doorOf(0, 11) = 160", "doorOf(0, 12) = 22", "doorOf(1, 11) = 3", "doorOf(1, 12) = 0",
                "pass(1) = 2", "doorOf(0, 8) = 421", "doorOf(0, 9) = 360", "doorOf(0, 10) = 61",
                "lock(0, 1) = 10", "doorOf(0, 7) = 1");
        promise(9).after("room(50, 0)", "door(0, 8, 7, 4, 3)").calls("doorOf(0, 7) = 0", "doorOf(0, 0) = 0", "doorOf(0, 1) = 8");
    }

    private void energyThroughADoorWraps() {
        promise(9).after("room(10, 0)", "room(10, 0)", "door(0, 1, 10, 10, 0)").times(16, "sound(0, 0, 20, 1000000)")
            .after("pass(20)", "planDoor(0, 20, 10)", "pass(15)").calls("doorOf(0, 9) = -1734967296", "doorOf(0, 10) = -2054967296",
                "roomOf(1, 2) = 320000000", "doorOf(0, 12) = 320000000");
    }

    private void counts() {
        promise(10).calls("count(-1) = -1", "count(13) = -1", "count(19) = -1", "count(22) = -1", "count(" + LEAST + ") = -1",
                "count(" + MOST + ") = -1")
            .after("room(100, 100)", "room(100, 200)", "door(0, 1, 50, 10, 1)", "door(0, 8, 50, 10, 1)", "open(0, 10)",
                "open(1, 10)", "sound(0, 0, 2, 1000)", "sound(1, 0, 1, 500)", "planDoor(0, 9, 0)", "type(32)", "set(0, 70)",
                "set(1, 80)", "pass(1)")
            // 900 of room 0 go through both doors, 400 * 50 / 100 of room 1 through door 0
            .calls("count(0) = 2", "count(1) = 2", "count(2) = 2", "count(3) = 1", "count(4) = 200", "count(5) = 1100",
                "count(6) = 200", "count(7) = 0", "count(8) = 1500", "count(9) = 2500", "count(10) = 2", "count(11) = 4",
                "count(12) = 1", "count(20) = 70", "count(21) = 80", "pass(1) = 2",
                // both rooms: 1000 and 200, less 100 and 40; 160 / 2 go, 450 + 450 + 80, then 450 + 200 + 450 arrive
                "count(2) = 1", "count(4) = 730", "count(5) = 980", "count(6) = 340", "count(7) = 450", "count(8) = 2500",
                "count(10) = 2", "cancel(0) = 0", "count(9) = 2500");
    }

    private void undoing() {
        promise(11).calls("undo() = -2", "room(10, 0) = 0", "room(20, 0) = 1", "undo() = 1", "count(0) = 1", "roomOf(1, 0) = -1",
                "undo() = 0", "count(0) = 0", "undo() = -2", "room(30, 1) = 0", "roomOf(0, 0) = 30")
            .after("door(0, 8, 10, 10, 3)", "sound(0, 0, 5, 1000)", "open(0, 10)", "type(65)", "pass(2)", "type(66)")
            // 999 * 10 / 30, then (666 + 1000 - 2) * 10 / 30
            .calls("count(11) = 4", "count(5) = 887", "undo() = 3", "count(12) = 2", "count(3) = 0", "count(5) = 0",
                "doorOf(0, 5) = 0", "doorOf(0, 6) = 10", "doorOf(0, 9) = 0", "roomOf(0, 2) = 0", "roomOf(0, 5) = 0",
                "count(10) = 0", "undo() = 2", "doorOf(0, 6) = 0", "count(9) = 5000", "undo() = 1", "count(9) = 0",
                "count(2) = 0", "undo() = 0", "count(1) = 0", "count(0) = 1", "undo() = -2",
                "door(0, 8, 2, 2, 0) = 0", "doorOf(0, 2) = 2", "doorOf(0, 6) = 0");
        promise(11).after("room(10, 0)", "set(0, 1)", "set(0, 2)", "set(0, 3)", "set(0, 4)").calls("count(11) = 4",
                "undo() = 3", "undo() = 2", "undo() = 1", "undo() = 0", "count(20) = 1000000", "undo() = -2", "count(0) = 1");
        promise(11).after("room(10, 0)", "sound(0, 0, 1, 64)", "pass(1)", "sound(0, 1, 1, 64)", "pass(1)", "undo()").calls(
                "fell(0, 1) = -4", "pass(1) = 2", "fell(0, 1) = 99", "undo() = 3", "undo() = 2", "undo() = 1",
                "roomOf(0, 2) = 0", "pass(1) = 1", "roomOf(0, 2) = 64");
        promise(11).after("room(10, 500)", "sound(0, 0, 1, 1000)", "set(0, 7)", "set(1, 8)", "pass(1)").calls(
                "undo() = 3", "undo() = 2", "count(21) = 10", "undo() = 1", "count(20) = 1000000", "undo() = 0",
                "count(2) = 0", "count(9) = 0");
    }

    private void undoingSteps() {
        promise(11).after("room(20, 0)", "door(0, 8, 10, 10, 1)", "planDoor(0, 0, 10)", "sound(0, 0, 3, 100)", "pass(2)").calls(
                "roomOf(0, 6) = 200", "count(7) = 50", "count(8) = 200", "count(10) = 1", "undo() = 3", "roomOf(0, 6) = 0",
                "count(7) = 0", "count(8) = 0", "count(10) = 0", "count(2) = 2", "pass(1) = 1", "undo() = 3", "pass(3) = 3",
                "pass(1) = 4", "count(7) = 212", "undo() = 3", "count(7) = 125", "roomOf(0, 6) = 300", "undo() = 2");
        // the energies of the steps gone by are the ones of then
        promise(11).after("room(10, 500)", "sound(0, 0, 1, 524288)", "pass(33)", "sound(0, 33, 1, 8)", "pass(1)").calls(
                "roomOf(0, 4) = 2", "fell(0, 32) = 115", "pass(10) = 44", "undo() = 3", "fell(0, 32) = 115", "undo() = 2");
        promise(11).after("room(10, 0)", "sound(0, 0, 1, 1)", "sound(0, 33, 1, 62)", "pass(34)").calls("fell(0, 32) = 95",
                "sound(0, 34, 1, 1) = 1", "pass(10) = 44", "fell(0, 10) = 99", "undo() = 3", "fell(0, 32) = 95");
    }

    private void everyChangeIsRecorded() {
        String[] changes = {"room(10, 0)", "door(0, 8, 1, 1, 0)", "open(0, 5)", "lock(0, 1)", "sound(0, 1, 1, 1)",
            "planDoor(0, 1, 5)", "cancel(0)", "set(0, 1000000)", "pass(1)", "load()"};
        for (String change : changes) {
            promise(11).after("room(10, 0)", "door(0, 8, 1, 1, 0)", "planDoor(0, 3, 5)").calls("count(11) = 3").after(change)
                .calls("count(11) = 4", "undo() = 3", "count(0) = 1", "count(1) = 1", "count(2) = 1", "count(3) = 0",
                    "count(9) = 0", "doorOf(0, 6) = 0", "doorOf(0, 7) = 0");
        }
        String[] others = {"refusal(0, 1)", "roomOf(0, 0)", "doorOf(0, 0)", "count(0)", "plan(0, 0)", "way(0, 8)", "tail(0)",
            "tailWith(0, 0, 1)", "bestDoor(0, 0)", "rise(0)", "peak(0, 0)", "quiet()", "fell(0, 1)", "type(32)",
            "clearText()", "fault(0)"};
        Run run = promise(11).after("room(10, 0)", "door(0, 8, 1, 1, 0)");
        for (String other : others) {
            run.after(other).calls("count(11) = 2");
        }
    }

    private void errorsAreNoChanges() {
        promise(11).after("room(10, 0)", "door(0, 8, 1, 1, 0)", "type(33)", "undo()", "undo()", "room(10, 0)", "undo()").calls(
                "room(9, 0) = -1", "count(11) = 0", "load() = -2", "count(11) = 0", "pass(0) = -1", "count(11) = 0",
                "cancel(0) = -1", "count(11) = 0", "set(2, 2) = -1", "count(11) = 0", "undo() = -2", "count(12) = 1");
    }
}
