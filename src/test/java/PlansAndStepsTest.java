/** Promises 12 to 17, and what a step does, each by ordinary calls, at its edges and with wrong arguments. */
public final class PlansAndStepsTest {
    private final Check check = new Check("PlansAndStepsTest");

    public static void main(String[] args) {
        PlansAndStepsTest test = new PlansAndStepsTest();
        test.sounds();
        test.allEnergyTold();
        test.plannedTargets();
        test.fullPlan();
        test.cancelling();
        test.orderOfThePlan();
        test.passing();
        test.lastStep();
        test.targetsInAStep();
        test.soundsInAStep();
        test.absorbingInAStep();
        test.goingThroughDoorsInAStep();
        test.delays();
        test.openedAmidSound();
        test.ways();
        test.check.end();
    }

    private Run promise(int number) {
        check.promise("promise " + number);
        return new Run(check);
    }

    private void sounds() {
        promise(12).after("room(10, 0)", "pass(3)").calls(
                "sound(-1, 3, 1, 1) = -1", "sound(1, 3, 1, 1) = -1", "sound(8, 3, 1, 1) = -1", "sound(0, -1, 1, 1) = -1",
                "sound(0, 5001, 1, 1) = -1", "sound(0, 3, 0, 1) = -1", "sound(0, 3, 21, 1) = -1", "sound(0, 3, 1, 0) = -1",
                "sound(0, 3, 1, 1000001) = -1", "sound(0, 3, 2147483647, 2147483647) = -1", "count(2) = 0", "count(9) = 0",
                "sound(0, 2, 1, 1) = -2", "sound(0, 2, 1, 0) = -1", "sound(0, 0, 1, 1) = -2",
                "sound(0, 3, 1, 1) = 1", "sound(0, 5000, 20, 1000000) = 2", "sound(0, 3, 20, 7) = 3", "count(2) = 3",
                "count(9) = 20000141", "roomOf(0, 2) = 0", "pass(1) = 4", "count(2) = 2", "roomOf(0, 2) = 8");
    }

    private void allEnergyTold() {
        promise(12).after("room(10, 0)").times(49, "sound(0, 9, 20, 1000000)", "cancel(0)").calls("count(9) = 980000000",
                "sound(0, 9, 19, 1000000) = 1", "sound(0, 9, 2, 500001) = -3", "sound(0, 9, 1, 1000000) = 2",
                "count(9) = 1000000000", "sound(0, 9, 1, 1) = -3", "cancel(0) = 1", "sound(0, 9, 1, 1) = -3",
                "undo() = 3", "count(9) = 1000000000", "undo() = 2", "count(9) = 999000000", "sound(0, 9, 1, 1) = 2",
                "sound(0, 9, 1, 1000000) = -3", "planDoor(0, 9, 1) = -1");
    }

    private void plannedTargets() {
        promise(13).after("room(10, 0)", "door(0, 8, 1, 1, 0)", "pass(3)").calls(
                "planDoor(-1, 3, 1) = -1", "planDoor(1, 3, 1) = -1", "planDoor(0, -1, 1) = -1", "planDoor(0, 5001, 1) = -1",
                "planDoor(0, 3, -1) = -1", "planDoor(0, 3, 11) = -1", "planDoor(0, 2, 1) = -2", "planDoor(0, 2, 11) = -1",
                "count(2) = 0", "planDoor(0, 3, 0) = 1", "planDoor(0, 5000, 10) = 2", "planDoor(0, 3, 10) = 3",
                "lock(0, 1) = 0", "planDoor(0, 4, 5) = 4", "set(0, 0) = 1000000", "planDoor(0, 4, 5) = 5", "count(9) = 0");
    }

    private void fullPlan() {
        promise(13).after("room(10, 0)", "door(0, 8, 1, 1, 0)", "pass(1)").times(16, "planDoor(0, 20, 1)").calls(
                "count(2) = 16", "planDoor(0, 20, 1) = -3", "planDoor(0, 0, 1) = -2", "planDoor(0, 20, 11) = -1",
                "sound(0, 20, 1, 1) = -3", "sound(0, 0, 1, 1) = -2", "sound(0, 20, 1, 0) = -1", "count(2) = 16",
                "count(9) = 0", "cancel(15) = 15", "sound(0, 20, 1, 1) = 16", "planDoor(0, 20, 1) = -3");
        promise(12).after("room(10, 0)").times(15, "sound(0, 20, 1, 1)").calls("sound(0, 20, 1, 1) = 16",
                "sound(0, 20, 1, 1) = -3", "count(9) = 16");
    }

    private void cancelling() {
        promise(14).after("room(10, 0)", "door(0, 8, 1, 1, 0)", "sound(0, 0, 5, 10)", "planDoor(0, 2, 3)",
                "sound(0, 3, 1, 100)").calls(
                "cancel(-1) = -1", "cancel(3) = -1", "cancel(2147483647) = -1", "cancel(-2147483648) = -1", "count(2) = 3",
                "pass(1) = 1", "roomOf(0, 2) = 10", "cancel(0) = 2", "plan(0, 1) = 1", "plan(1, 4) = 100", "pass(1) = 2",
                "roomOf(0, 2) = 10", "roomOf(0, 8) = 0", "cancel(1) = 1", "cancel(1) = -1", "pass(2) = 4", "doorOf(0, 6) = 3",
                "roomOf(0, 6) = 10", "cancel(0) = -1", "count(9) = 150");
        promise(14).calls("cancel(0) = -1");
    }

    private void orderOfThePlan() {
        promise(15).after("room(10, 0)", "room(10, 0)", "door(0, 8, 1, 1, 0)", "sound(1, 7, 2, 70)", "planDoor(0, 3, 4)",
                "sound(0, 7, 3, 71)", "planDoor(0, 7, 8)", "sound(0, 1, 20, 10)", "sound(1, 3, 1, 31)").calls(
                "plan(-1, 0) = -1", "plan(0, -1) = -1", "plan(0, 5) = -1", "plan(9, 5) = -1", "plan(6, 0) = -4",
                "plan(16, 0) = -4", "plan(2147483647, 4) = -4", "plan(-2147483648, 0) = -1",
                "plan(0, 0) = 1", "plan(0, 1) = 0", "plan(0, 2) = 0", "plan(0, 3) = 20", "plan(0, 4) = 10",
                "plan(1, 0) = 3", "plan(1, 1) = 1", "plan(1, 2) = 0", "plan(1, 3) = 0", "plan(1, 4) = 4",
                "plan(2, 0) = 3", "plan(2, 1) = 0", "plan(2, 2) = 1", "plan(2, 3) = 1", "plan(2, 4) = 31",
                "plan(3, 4) = 70", "plan(3, 0) = 7", "plan(4, 4) = 71", "plan(5, 4) = 8", "plan(5, 1) = 1",
                "pass(4) = 4", "count(2) = 4", "plan(0, 0) = 1", "plan(0, 3) = 20", "plan(1, 4) = 70", "plan(4, 0) = -4");
        promise(15).calls("plan(0, 0) = -4", "plan(15, 4) = -4");
    }

    private void passing() {
        promise(16).calls("pass(0) = -1", "pass(51) = -1", "pass(-1) = -1", "pass(-2147483648) = -1", "pass(2147483647) = -1",
                "count(3) = 0", "pass(1) = 1", "pass(50) = 51", "pass(49) = 100");
    }

    private void lastStep() {
        promise(16).after("room(10, 0)", "door(0, 8, 10, 10, 0)").times(99, "pass(50)").after("pass(40)").calls("count(3) = 4990",
                "pass(11) = -3", "pass(51) = -1", "count(3) = 4990", "pass(10) = 5000", "pass(1) = -3", "pass(50) = -3",
                "sound(0, 4999, 1, 5) = -2", "sound(0, 5001, 1, 5) = -1", "sound(0, 5000, 20, 5) = 1", "roomOf(0, 8) = 1",
                "planDoor(0, 4999, 10) = -2", "planDoor(0, 5000, 10) = 2");
        // what is foretold goes on beyond the step 5000
        promise(22).after("room(10, 0)", "door(0, 8, 10, 10, 0)").times(100, "pass(50)").after("sound(0, 5000, 20, 5)").calls(
                "peak(0, 0) = 20", "peak(0, 1) = 100", "quiet() = -4", "planDoor(0, 5000, 10) = 2", "peak(0, 0) = 0",
                "quiet() = 20", "pass(1) = -3");
    }

    private void targetsInAStep() {
        promise(16).after("room(10, 0)", "door(0, 8, 1, 10, 0)", "door(0, 8, 1, 3, 0)", "planDoor(0, 1, 9)", "planDoor(1, 1, 8)",
                "planDoor(0, 1, 2)", "planDoor(1, 2, 0)", "pass(1)").calls("doorOf(0, 6) = 0", "count(2) = 4",
                "pass(1) = 2", "doorOf(0, 6) = 2", "doorOf(0, 5) = 2", "doorOf(1, 6) = 8", "doorOf(1, 5) = 3", "count(2) = 1",
                "pass(1) = 3", "doorOf(1, 6) = 0", "doorOf(1, 5) = 0", "count(2) = 0");
        // a target of the plan replaces what open() gave, and stands behind it
        promise(16).after("room(10, 0)", "door(0, 8, 1, 10, 0)", "open(0, 7)", "planDoor(0, 0, 1)", "pass(1)").calls(
                "doorOf(0, 5) = 1", "doorOf(0, 6) = 1");
        promise(16).after("room(10, 0)", "door(0, 8, 1, 10, 0)", "set(0, 0)", "sound(0, 0, 1, 100)", "pass(1)").calls(
                "open(0, 1) = -2", "planDoor(0, 1, 1) = 1", "planDoor(0, 2, 1) = 2", "pass(1) = 2", "doorOf(0, 5) = 1",
                "pass(1) = 3", "count(2) = 0");
        Run locked = promise(16).after("room(10, 0)", "door(0, 8, 1, 10, 0)", "lock(0, 1)", "planDoor(0, 0, 5)", "pass(1)");
        locked.calls("count(2) = 0", "doorOf(0, 6) = 0", "lock(0, 0) = 0", "pass(1) = 2", "doorOf(0, 5) = 0");
        Run speeds = promise(16).after("room(50, 0)");
        for (int door = 0; door < 10; door++) {
            speeds.after("door(0, 8, 1, " + (door + 1) + ", 0)", "open(" + door + ", 10)");
        }
        speeds.after("pass(1)");
        for (int door = 0; door < 10; door++) {
            speeds.calls("doorOf(" + door + ", 5) = " + (door + 1));
        }
    }

    private void soundsInAStep() {
        promise(16).after("room(10, 0)", "room(10, 0)", "sound(0, 2, 2, 10)", "sound(0, 3, 2, 100)", "sound(1, 3, 1, 7)").calls(
                "pass(2) = 2", "roomOf(0, 2) = 0", "count(2) = 3", "pass(1) = 3", "roomOf(0, 2) = 10", "count(2) = 3",
                "pass(1) = 4", "roomOf(0, 2) = 120", "roomOf(1, 2) = 7", "count(2) = 1", "pass(1) = 5", "roomOf(0, 2) = 220",
                "count(2) = 0", "pass(1) = 6", "roomOf(0, 2) = 220", "roomOf(0, 6) = 220", "count(8) = 227", "count(9) = 227");
        promise(16).after("room(10, 0)", "sound(0, 0, 20, 3)").calls("pass(19) = 19", "count(2) = 1", "roomOf(0, 8) = 1",
                "pass(1) = 20", "count(2) = 0", "roomOf(0, 2) = 60", "roomOf(0, 8) = 0");
    }

    private void absorbingInAStep() {
        promise(16).after("room(10, 1)", "sound(0, 0, 1, 1000)").calls("pass(1) = 1", "roomOf(0, 5) = 1", "roomOf(0, 2) = 999",
                "pass(1) = 2", "roomOf(0, 5) = 2", "roomOf(0, 2) = 998");
        promise(16).after("room(10, 1)", "sound(0, 0, 1, 1001)", "pass(1)").calls("roomOf(0, 5) = 2", "count(6) = 2");
        promise(16).after("room(10, 1000)", "sound(0, 0, 1, 1000000)", "pass(1)").calls("roomOf(0, 5) = 1000000",
                "roomOf(0, 2) = 0", "roomOf(0, 4) = -4");
        promise(16).after("room(10, 0)", "sound(0, 0, 1, 9)", "pass(5)").calls("roomOf(0, 5) = 0", "roomOf(0, 2) = 9");
        promise(16).after("room(10, 999)").times(16, "sound(0, 0, 20, 1000000)").after("pass(1)").calls("roomOf(0, 5) = 15984000",
                "roomOf(0, 2) = 16000");
        // what arrives in a step is not absorbed in it
        promise(16).after("room(10, 0)", "room(10, 500)", "door(0, 1, 10, 10, 0)", "planDoor(0, 0, 10)", "sound(0, 0, 1, 100)",
                "pass(1)").calls("roomOf(1, 2) = 100", "roomOf(1, 5) = 0");
    }

    private void goingThroughDoorsInAStep() {
        // all by the energies ahead of it: through each of the doors goes the half of 1000, of 101 go 50 and 50
        promise(16).after("room(20, 0)", "room(20, 0)", "room(20, 0)", "door(0, 1, 10, 10, 0)", "door(0, 2, 10, 10, 0)",
                "door(1, 2, 10, 10, 0)", "open(0, 10)", "open(1, 10)", "open(2, 10)", "sound(0, 0, 1, 1000)", "sound(1, 0, 1, 101)",
                "pass(1)").calls("roomOf(0, 2) = 50", "roomOf(1, 2) = 501", "roomOf(2, 2) = 550", "doorOf(0, 9) = 500",
                "doorOf(0, 10) = 50", "doorOf(1, 9) = 500", "doorOf(1, 10) = 0", "doorOf(2, 9) = 50", "count(5) = 0");
        promise(16).after("room(30, 0)", "door(0, 8, 7, 3, 0)", "open(0, 3)", "sound(0, 0, 1, 1000)", "pass(1)").calls(
                "doorOf(0, 9) = 70", "roomOf(0, 2) = 930", "count(7) = 70", "doorOf(0, 11) = 65", "pass(1) = 2",
                "count(7) = 135", "roomOf(0, 2) = 865", "doorOf(0, 10) = 0");
        Run much = promise(16).after("room(1000, 0)", "door(0, 8, 999, 10, 0)", "open(0, 10)").times(15, "sound(0, 0, 20, 1000000)");
        much.after("pass(1)").calls("count(7) = 14985000", "roomOf(0, 2) = 15000");
    }

    private void delays() {
        for (int delay = 0; delay <= 5; delay++) {
            Run run = promise(16).after("room(10, 0)", "room(10, 0)", "door(0, 1, 10, 10, " + delay + ")", "open(0, 10)",
                    "sound(0, 0, 1, 64)", "planDoor(0, 1, 0)");
            for (int passed = 1; passed <= delay; passed++) {
                run.calls("pass(1) = " + passed, "roomOf(1, 2) = 0", "doorOf(0, 8) = 64", "count(5) = 64", "count(4) = 0");
            }
            run.calls("pass(1) = " + (delay + 1), "roomOf(1, 2) = 64", "doorOf(0, 8) = 0", "count(5) = 0", "roomOf(0, 2) = 0");
        }
        promise(16).after("room(20, 0)", "door(0, 8, 10, 10, 2)", "door(0, 8, 10, 10, 5)", "open(0, 10)", "open(1, 10)",
                "sound(0, 0, 2, 100)").calls("pass(2) = 2", "count(7) = 0", "doorOf(0, 8) = 100", "doorOf(1, 8) = 100",
                "pass(1) = 3", "count(7) = 50", "doorOf(0, 8) = 50", "pass(1) = 4", "count(7) = 100", "pass(2) = 6",
                "count(7) = 150", "count(5) = 50", "pass(1) = 7", "count(7) = 200", "count(5) = 0");
    }

    private void openedAmidSound() {
        promise(10).after("room(10, 0)", "room(10, 0)", "room(10, 0)", "door(0, 1, 1, 4, 0)", "door(2, 8, 1, 4, 0)",
                "door(2, 1, 1, 10, 0)", "sound(1, 1, 2, 9)", "open(0, 10)", "open(1, 10)", "open(2, 10)").calls(
                "pass(1) = 1", "count(10) = 0", "pass(1) = 2", "count(10) = 1", "pass(1) = 3", "count(10) = 2",
                "sound(2, 3, 9, 1) = 1", "pass(1) = 4", "count(10) = 2", "open(2, 5) = 10", "open(1, 3) = 10",
                "pass(1) = 5", "count(10) = 2", "open(1, 9) = 3", "pass(1) = 6", "count(10) = 3", "open(2, 6) = 5",
                "pass(1) = 7", "count(10) = 4", "pass(1) = 8", "count(10) = 4");
        // foretelling counts nothing
        promise(10).after("room(10, 0)", "door(0, 8, 1, 1, 0)", "open(0, 10)", "sound(0, 0, 20, 9)", "peak(0, 0)", "quiet()").calls(
                "count(10) = 0", "pass(20) = 20", "count(10) = 10");
    }

    private void ways() {
        promise(17).times(5, "room(100, 0)").after("door(0, 1, 1, 10, 0)", "door(2, 1, 1, 10, 0)", "door(2, 3, 1, 10, 0)",
                "door(0, 8, 1, 10, 0)", "door(4, 8, 1, 10, 0)", "door(0, 3, 1, 10, 0)").calls(
                "way(-1, 0) = -1", "way(5, 0) = -1", "way(8, 0) = -1", "way(8, 8) = -1", "way(0, -1) = -1", "way(0, 5) = -1",
                "way(0, 9) = -1", "way(0, 2147483647) = -1", "way(32, 8) = -1", "way(0, 0) = 0", "way(4, 4) = 0",
                "way(0, 1) = -4", "way(0, 8) = -4")
            .after("planDoor(0, 0, 1)", "planDoor(1, 0, 1)", "planDoor(2, 0, 10)", "planDoor(3, 0, 1)", "planDoor(4, 0, 1)").calls(
                "way(0, 1) = -4", "pass(1) = 1", "way(0, 1) = 1", "way(1, 0) = 1", "way(0, 2) = 2", "way(0, 3) = 3",
                "way(3, 0) = 3", "way(3, 8) = 4", "way(0, 8) = 1", "way(0, 4) = -4", "way(4, 0) = -4", "way(4, 8) = 1",
                "open(5, 1) = 0", "way(0, 3) = 3", "pass(1) = 2", "way(0, 3) = 1", "way(0, 2) = 2", "way(3, 8) = 2",
                "open(0, 0) = 1", "way(0, 1) = 1", "pass(1) = 3", "way(0, 1) = 3", "way(1, 0) = 3", "way(1, 8) = 4");
        Run chain = promise(17).times(8, "room(100, 0)");
        for (int room = 7; room > 0; room--) {
            chain.after("door(" + room + ", " + (room - 1) + ", 1, 1, 0)");
        }
        chain.after("door(0, 8, 1, 1, 0)");
        for (int door = 0; door < 8; door++) {
            chain.after("open(" + door + ", 1)");
        }
        chain.calls("pass(1) = 1", "way(7, 0) = 7", "way(0, 7) = 7", "way(7, 8) = 8", "way(3, 4) = 1");
    }
}
