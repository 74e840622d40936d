/** Promises 18 to 24, each by ordinary calls, at its edges and with wrong arguments. */
public final class ForetoldTest {
    private final Check check = new Check("ForetoldTest");

    public static void main(String[] args) {
        ForetoldTest test = new ForetoldTest();
        test.tails();
        test.tailsAtTheirEdges();
        test.tailsWith();
        test.bestDoors();
        test.bestDoorsAmongEquals();
        test.rises();
        test.peaks();
        test.quietness();
        test.falls();
        test.fallsOfALateRoom();
        test.nothingChanges();
        test.check.end();
    }

    private Run promise(int number) {
        check.promise("promise " + number);
        return new Run(check);
    }

    private void tails() {
        // 1000, 500, 250, 125, 62, 31, 15, 7, 3, 1
        promise(18).after("room(10, 500)").calls("tail(0) = -2", "tail(1) = -1", "tail(-1) = -1", "tail(8) = -1")
            .after("sound(0, 0, 1, 2000)").calls("tail(0) = -2", "pass(1) = 1", "roomOf(0, 2) = 1000", "tail(0) = 9");
        // 999 falls as 1000 does, but its thousandth is nothing
        promise(18).after("room(10, 500)", "sound(0, 0, 1, 1998)", "pass(1)").calls("roomOf(0, 2) = 999", "tail(0) = 10");
        promise(18).after("room(10, 500)", "sound(0, 0, 1, 3998)", "pass(1)").calls("roomOf(0, 2) = 1999", "tail(0) = 10");
        promise(18).after("room(10, 500)", "sound(0, 0, 20, 2000)", "pass(1)").calls("tail(0) = 9", "count(2) = 1")
            .after("sound(0, 2, 20, 1)").calls("tail(0) = 9", "count(2) = 2");
        promise(18).after("room(10, 0)", "sound(0, 0, 1, 1)", "pass(1)").calls("tail(0) = -4");
        // nothing is left behind the first step, all comes back in the second one
        promise(18).after("room(10, 0)", "room(10, 0)", "door(0, 1, 10, 10, 0)", "sound(0, 0, 1, 1000)", "pass(1)", "open(0, 10)")
            .calls("tail(0) = 1", "pass(1) = 2", "tail(0) = -2", "tail(1) = 1");
        promise(18).after("room(10, 0)", "door(0, 8, 10, 10, 0)", "sound(0, 0, 1, 1000)", "planDoor(0, 7, 10)", "pass(1)").calls(
                "tail(0) = 7", "lock(0, 1) = 0", "tail(0) = -4", "lock(0, 0) = 0", "tail(0) = 7", "open(0, 5) = 0",
                "tail(0) = 7", "pass(6) = 7", "tail(0) = 1");
    }

    private void tailsAtTheirEdges() {
        promise(18).after("room(10, 0)", "door(0, 8, 10, 10, 0)", "sound(0, 0, 1, 5)", "pass(1)").calls(
                "planDoor(0, 200, 10) = 1", "tail(0) = 200", "tailWith(0, 0, 0) = 200", "undo() = 3", "planDoor(0, 201, 10) = 1",
                "tail(0) = -4", "tailWith(0, 0, 0) = -4", "bestDoor(0, 0) = 10", "bestDoor(0, 1) = 1", "pass(1) = 2",
                "tail(0) = 200");
    }

    private void tailsWith() {
        promise(19).after("room(10, 0)", "room(10, 0)", "door(0, 8, 10, 10, 0)").calls("tailWith(0, 0, 10) = -2")
            .after("sound(0, 0, 20, 1000)", "pass(1)").calls(
                "tailWith(-1, 0, 10) = -1", "tailWith(2, 0, 10) = -1", "tailWith(0, -1, 10) = -1", "tailWith(0, 1, 10) = -1",
                "tailWith(0, 0, -1) = -1", "tailWith(0, 0, 11) = -1", "tailWith(1, 0, 11) = -1", "tailWith(1, 0, 10) = -2",
                "tailWith(0, 0, 10) = 1", "tailWith(0, 0, 0) = -4",
                // 1000, 500, 250, 125, 63, 32, 16, 8, 4, 2, 1
                "tailWith(0, 0, 5) = 10", "doorOf(0, 6) = 0", "count(2) = 1", "tail(0) = -4",
                "set(0, 0) = 1000000", "refusal(0, 5) = 3", "tailWith(0, 0, 5) = 10",
                "lock(0, 1) = 0", "tailWith(0, 0, 10) = -4", "lock(0, 0) = 0", "tailWith(0, 0, 10) = 1");
        // a target of the plan comes after the one that is given first
        promise(19).after("room(10, 0)", "door(0, 8, 10, 10, 0)", "sound(0, 0, 1, 1000)", "planDoor(0, 1, 0)",
                "planDoor(0, 3, 10)", "pass(1)").calls("tailWith(0, 0, 10) = 3", "tail(0) = 3");
        // what is on its way already comes in
        promise(19).after("room(10, 0)", "room(10, 0)", "door(0, 1, 5, 10, 5)", "planDoor(0, 0, 10)", "sound(0, 0, 1, 8)",
                "sound(1, 0, 1, 1)", "pass(1)").calls("tailWith(0, 0, 0) = -4", "doorOf(0, 8) = 4");
    }

    private void bestDoors() {
        promise(20).after("room(100, 0)", "room(100, 0)", "door(0, 8, 10, 10, 0)", "door(0, 8, 90, 10, 0)", "door(1, 8, 1, 1, 0)")
            .calls("bestDoor(0, 0) = -2", "bestDoor(0, 1) = -2", "bestDoor(0, 2) = -1", "bestDoor(0, -1) = -1",
                "bestDoor(2, 0) = -1", "bestDoor(-1, 0) = -1", "bestDoor(8, 0) = -1")
            .after("sound(0, 0, 1, 10000)", "pass(1)").calls(
                // 10000, 1000, 100, 10
                "tail(0) = -4", "bestDoor(0, 0) = 110", "bestDoor(0, 1) = 3", "bestDoor(1, 0) = -2", "bestDoor(1, 2) = -1",
                "open(1, 10) = 0", "tail(0) = 3",
                // both: nothing is left
                "bestDoor(0, 0) = 10", "bestDoor(0, 1) = 1", "open(0, 10) = 0", "bestDoor(0, 0) = -4", "bestDoor(0, 1) = -4");
        promise(20).after("room(10, 0)", "sound(0, 0, 1, 10)", "pass(1)").calls("bestDoor(0, 0) = -4", "bestDoor(0, 1) = -4");
        promise(20).after("room(10, 0)", "door(0, 8, 10, 10, 0)", "sound(0, 0, 1, 10)", "pass(1)", "lock(0, 1)").calls(
                "bestDoor(0, 0) = -4", "lock(0, 0) = 0", "bestDoor(0, 0) = 10", "set(0, 0) = 1000000", "bestDoor(0, 0) = 10",
                "doorOf(0, 6) = 0", "set(1, 0) = 10", "sound(0, 1, 20, 10) = 1", "bestDoor(0, 1) = 1");
        promise(20).after("room(10, 1000)", "room(10, 0)", "door(1, 8, 10, 10, 0)", "door(1, 0, 0, 1, 0)", "sound(1, 0, 1, 8)")
            .after("pass(1)").calls("bestDoor(1, 1) = 1", "bestDoor(0, 1) = -2");
    }

    private void bestDoorsAmongEquals() {
        promise(20).after("room(30, 0)", "door(0, 8, 10, 5, 0)", "door(0, 8, 10, 5, 1)", "door(0, 8, 10, 5, 0)",
                "sound(0, 0, 1, 5000)", "pass(1)").calls("bestDoor(0, 0) = 10", "lock(0, 1) = 0", "bestDoor(0, 0) = 110");
        // the room is fed through the door; with 0 and with 10 the tail is the same one
        promise(20).after("room(10, 514)", "room(10, 0)", "door(1, 0, 8, 9, 5)", "open(0, 8)", "sound(0, 0, 1, 1526)",
                "sound(1, 0, 1, 5778)", "pass(6)").calls("tail(0) = 47", "tailWith(0, 0, 0) = 11", "tailWith(0, 0, 10) = 11",
                "bestDoor(0, 0) = 0", "bestDoor(0, 1) = 11");
        // shorter by one step
        promise(20).after("room(10, 67)", "room(10, 0)", "door(1, 0, 1, 7, 2)", "door(0, 1, 1, 3, 3)", "open(0, 8)", "open(1, 6)",
                "sound(0, 0, 1, 170)", "sound(1, 0, 1, 94)", "pass(2)").calls("tail(0) = 88", "bestDoor(0, 0) = 0",
                "bestDoor(0, 1) = 87", "tailWith(0, 0, 0) = 87", "tailWith(0, 0, 10) = 87");
        // 200 steps are found, where tail() finds none, 201 are not
        promise(20).after("room(176, 0)", "door(0, 8, 6, 10, 0)", "sound(0, 0, 1, 1000000)", "pass(1)").calls("tail(0) = -4",
                "tailWith(0, 0, 10) = 200", "bestDoor(0, 0) = 10", "bestDoor(0, 1) = 200");
        promise(20).after("room(177, 0)", "door(0, 8, 6, 10, 0)", "sound(0, 0, 1, 1000000)", "pass(1)").calls("tail(0) = -4",
                "tailWith(0, 0, 10) = -4", "bestDoor(0, 0) = -4", "bestDoor(0, 1) = -4");
        promise(20).after("room(10, 500)", "room(10, 0)", "door(1, 0, 5, 10, 0)", "open(0, 10)", "sound(1, 0, 1, 1000000)",
                "pass(1)").calls("tailWith(0, 0, 0) = 10", "bestDoor(0, 0) = 0", "bestDoor(0, 1) = 10");
    }

    private void rises() {
        promise(21).after("room(10, 0)", "room(10, 0)", "door(0, 1, 5, 10, 3)", "sound(0, 0, 2, 64)", "planDoor(0, 0, 10)", "pass(1)")
            .calls("rise(-1) = -1", "rise(2) = -1", "rise(8) = -1", "rise(1) = 3", "pass(2) = 3", "rise(1) = 1",
                "pass(1) = 4", "roomOf(1, 2) = 32", "roomOf(0, 2) = 12",
                // 16 go out of room 1 as 48 come in, then 32 as 24 come in
                "rise(1) = 1", "pass(1) = 5", "roomOf(1, 2) = 64", "pass(1) = 6", "roomOf(1, 2) = 56");
        // a second rise: it falls first
        promise(21).after("room(10, 500)", "room(10, 0)", "door(0, 1, 5, 10, 5)", "open(0, 10)", "sound(0, 0, 1, 800)", "pass(1)")
            // in room 1 at the end of the steps 5 and 17, back in room 0 at the end of the step 11
            .calls("roomOf(0, 2) = 200", "rise(0) = 11", "rise(1) = 5", "pass(9) = 10", "rise(0) = 2", "rise(1) = 8");
        promise(21).after("room(10, 0)", "sound(0, 0, 20, 9)").calls("rise(0) = -4", "pass(1) = 1", "rise(0) = -4",
                "roomOf(0, 2) = 9");
        promise(21).after("room(10, 0)", "room(10, 0)", "door(0, 1, 5, 10, 0)", "sound(0, 0, 1, 64)", "pass(1)").calls(
                "planDoor(0, 200, 10) = 1", "rise(1) = 200", "rise(0) = -4", "cancel(0) = 0", "planDoor(0, 201, 10) = 1",
                "rise(1) = -4", "pass(1) = 2", "rise(1) = 200");
    }

    private void peaks() {
        promise(22).after("room(10, 0)", "room(10, 500)").calls("peak(0, 0) = 0", "peak(0, 1) = 0", "peak(2, 0) = -1",
                "peak(-1, 0) = -1", "peak(0, 2) = -1", "peak(0, -1) = -1", "sound(0, 199, 1, 5) = 1", "peak(0, 0) = 200",
                "peak(0, 1) = 5", "sound(0, 200, 1, 5) = 2", "peak(0, 1) = 5", "cancel(0) = 1", "peak(0, 0) = 0", "peak(0, 1) = 0",
                "sound(1, 3, 2, 100) = 2",
                // 50, then 75
                "peak(1, 0) = 5", "peak(1, 1) = 75", "pass(5) = 5", "peak(1, 0) = 0", "peak(1, 1) = 75", "pass(1) = 6",
                "peak(1, 1) = 37",
                // 37 + 38 = 75, of which 38 are absorbed
                "sound(1, 6, 1, 38) = 2", "peak(1, 0) = 0", "peak(1, 1) = 37", "sound(1, 7, 1, 39) = 3", "peak(1, 0) = 2",
                "peak(1, 1) = 38");
        promise(22).after("room(10, 0)", "sound(0, 2, 3, 7)").calls("peak(0, 0) = 5", "peak(0, 1) = 21", "pass(1) = 1",
                "peak(0, 0) = 4", "cancel(0) = 0", "peak(0, 1) = 0");
    }

    private void quietness() {
        promise(23).calls("quiet() = 0");
        promise(23).after("room(10, 0)", "room(10, 0)", "sound(0, 0, 1, 6)", "sound(1, 3, 1, 4)").calls("quiet() = 4", "pass(3) = 3",
                "quiet() = 1", "pass(1) = 4", "quiet() = 0", "set(1, 9) = 10", "quiet() = -4", "set(1, 11) = 9", "quiet() = 0",
                "set(1, 0) = 11", "quiet() = -4");
        promise(23).after("room(10, 0)", "door(0, 8, 10, 10, 5)", "sound(0, 0, 1, 11)", "open(0, 10)").calls("quiet() = 6",
                "pass(1) = 1", "count(4) = 0", "count(5) = 11", "quiet() = 5", "planDoor(0, 300, 1) = 1", "quiet() = 5",
                "pass(5) = 6", "quiet() = 0", "count(2) = 1");
        promise(23).after("room(10, 0)", "sound(0, 199, 1, 1)").calls("quiet() = 200", "sound(0, 200, 1, 1) = 2", "quiet() = -4",
                "pass(1) = 1", "quiet() = 200", "sound(0, 1, 1, 9) = 3", "quiet() = -4", "set(1, 11) = 10", "quiet() = 200");
        promise(23).after("room(10, 500)", "sound(0, 0, 1, 100)").calls("quiet() = 4", "set(1, 12) = 10", "quiet() = 3");
    }

    private void falls() {
        // 2 to the power of (19 - the present step), from the step 1 on
        promise(24).after("room(10, 500)", "sound(0, 0, 1, 524288)").calls("fell(0, 1) = -2", "fell(-1, 1) = -1", "fell(1, 1) = -1",
                "fell(0, 0) = -1", "fell(0, 33) = -1", "fell(0, -2147483648) = -1", "pass(1) = 1", "fell(0, 1) = -4",
                "fell(0, 2) = -2", "pass(9) = 10", "roomOf(0, 4) = 9", "fell(0, 1) = 101", "fell(0, 9) = 109", "fell(0, 10) = -4",
                "fell(0, 11) = -2", "fell(0, 32) = -2", "pass(9) = 19", "roomOf(0, 2) = 1", "fell(0, 18) = 118", "pass(1) = 20",
                "roomOf(0, 2) = 0", "fell(0, 1) = -4", "fell(0, 20) = -4", "fell(0, 21) = -2");
        promise(24).after("room(10, 0)", "sound(0, 0, 1, 1)", "pass(1)", "sound(0, 1, 1, 7)", "pass(1)").calls("fell(0, 1) = 97",
                "fell(0, 2) = -4", "pass(30) = 32", "fell(0, 30) = 100", "fell(0, 31) = 97", "fell(0, 32) = -4", "pass(1) = 33",
                "fell(0, 31) = 100", "fell(0, 32) = 97", "fell(0, 33) = -1", "pass(1) = 34", "fell(0, 32) = 100", "pass(50) = 84",
                "fell(0, 32) = 100");
    }

    private void fallsOfALateRoom() {
        promise(24).after("room(10, 0)", "pass(40)", "room(10, 0)", "sound(1, 40, 1, 4)").calls("fell(1, 1) = -2", "fell(0, 1) = -4",
                "pass(1) = 41", "fell(1, 1) = -4", "fell(1, 2) = -2", "fell(0, 32) = -4", "pass(2) = 43", "fell(1, 2) = 100",
                "fell(1, 3) = -4", "fell(1, 4) = -2", "fell(1, 32) = -2");
    }

    private void nothingChanges() {
        Run run = promise(22).after("room(100, 10)", "room(50, 0)", "door(0, 1, 20, 3, 2)", "door(1, 8, 7, 4, 1)",
                "sound(0, 0, 20, 1000)", "planDoor(0, 3, 9)", "open(1, 9)", "pass(2)");
        for (int what = 0; what < 2; what++) {
            run.calls("roomOf(0, 2) = 1970", "roomOf(0, 5) = 30", "doorOf(0, 5) = 0", "doorOf(1, 5) = 8", "doorOf(1, 6) = 9",
                    "count(2) = 2", "count(3) = 2", "count(4) = 1970", "count(5) = 0", "count(6) = 30", "count(7) = 0",
                    "count(8) = 2000", "count(10) = 0", "count(11) = 4", "fell(0, 1) = 99", "roomOf(0, 8) = 1")
                .after("tail(0)", "tailWith(0, 0, 10)", "bestDoor(0, 0)", "rise(1)", "peak(0, 0)", "quiet()");
        }
    }
}
