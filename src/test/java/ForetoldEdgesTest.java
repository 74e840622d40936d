/** The sentences of the document that name boundary cases of what is foretold, and of fell, each with a test of its own. */
public final class ForetoldEdgesTest {
    private static final String LEAST = "-2147483648";
    private static final String MOST = "2147483647";
    private static final String[] STANDING = {"room(10, 0)", "door(0, 8, 10, 10, 0)", "sound(0, 0, 1, 5)", "pass(1)"};

    private final Check check = new Check("ForetoldEdgesTest");

    public static void main(String[] args) {
        ForetoldEdgesTest test = new ForetoldEdgesTest();
        test.twoHundredSteps();
        test.beyondTheLastStep();
        test.plannedTargetsAreGiven();
        test.nothingChanges();
        test.thousandths();
        test.tailsWithoutSounds();
        test.errorsOfTails();
        test.firstTargets();
        test.bestDoors();
        test.equalDoors();
        test.noBetterDoor();
        test.rises();
        test.peaks();
        test.quietness();
        test.quietOnItsWay();
        test.falls();
        test.fallsOfThirtyTwoSteps();
        test.fallsOfRoomsThatCame();
        test.check.end();
    }

    private Story sentence(String words) {
        check.promise('"' + words + '"');
        return new Story(check);
    }

    private void twoHundredSteps() {
        String sentence = "NOT_FOUND if it is more than 200.";
        // the door opens in the 200th step from now on, and in the 201st
        sentence(sentence).then(STANDING).then("planDoor(0, 200, 10)").keeps("tail(0) = 200", "tailWith(0, 0, 0) = 200")
                .then("cancel(0)", "planDoor(0, 201, 10)").keeps("tail(0) = -4", "tailWith(0, 0, 0) = -4").then("pass(1)")
                .keeps("tail(0) = 200");
        sentence(sentence).then(STANDING).then("set(1, 4)", "planDoor(0, 200, 10)").keeps("quiet() = 200")
                .then("cancel(0)", "planDoor(0, 201, 10)").keeps("quiet() = -4").then("pass(1)").keeps("quiet() = 200");
        sentence("NOT_FOUND if there is none within 200 steps.")
                .then("room(10, 0)", "room(10, 0)", "door(0, 1, 10, 10, 0)", "sound(0, 0, 1, 5)", "pass(1)",
                        "planDoor(0, 200, 10)")
                .keeps("rise(1) = 200", "rise(0) = -4").then("cancel(0)", "planDoor(0, 201, 10)").keeps("rise(1) = -4")
                .then("pass(1)").keeps("rise(1) = 200");
        sentence("now or behind 1 to 200 steps").then("room(10, 0)", "pass(3)", "sound(0, 202, 1, 5)")
                .keeps("peak(0, 0) = 200", "peak(0, 1) = 5").then("cancel(0)", "sound(0, 203, 1, 5)")
                .keeps("peak(0, 0) = 0", "peak(0, 1) = 0").then("pass(1)").keeps("peak(0, 0) = 200", "peak(0, 1) = 5");
        // a tail of 200 and one of 201 by absorbing alone: 1 less in each step
        sentence(sentence).then("room(10, 1)", "sound(0, 0, 1, 201)", "pass(1)")
                .keeps("roomOf(0, 2) = 200", "tail(0) = 200").then("sound(0, 1, 1, 2)", "pass(1)")
                .keeps("roomOf(0, 2) = 201", "tail(0) = -4");
        sentence("NOT_FOUND if no tail by these is shorter than tail() tells (where that finds none, any that is found is shorter)")
                .then("room(176, 0)", "door(0, 8, 6, 10, 0)", "sound(0, 0, 1, 1000000)", "pass(1)")
                .keeps("tail(0) = -4", "tailWith(0, 0, 10) = 200", "bestDoor(0, 0) = 10", "bestDoor(0, 1) = 200");
        sentence("NOT_FOUND if no tail by these is shorter than tail() tells (where that finds none, any that is found is shorter)")
                .then("room(177, 0)", "door(0, 8, 6, 10, 0)", "sound(0, 0, 1, 1000000)", "pass(1)")
                .keeps("tail(0) = -4", "tailWith(0, 0, 10) = -4", "bestDoor(0, 0) = -4", "bestDoor(0, 1) = -4");
    }

    private void beyondTheLastStep() {
        sentence("beyond the step 5000, too")
                .then("room(10, 500)", "room(10, 0)", "door(0, 8, 10, 10, 0)", "door(1, 8, 10, 10, 5)")
                .times(99, "pass(50)")
                .then("pass(48)", "sound(0, 4998, 2, 2000)", "sound(1, 5000, 20, 5)", "sound(1, 4998, 1, 7)", "pass(2)")
                .keeps("count(3) = 5000", "roomOf(0, 2) = 1500", "pass(1) = -3",
                        // 750, 375, 187, 93, 46, 23, 11, 5, 2, 1
                        "tail(0) = 10", "tail(1) = -4", "tailWith(0, 0, 10) = 1", "tailWith(1, 1, 10) = 1",
                        "bestDoor(0, 0) = 10", "bestDoor(1, 0) = 110", "bestDoor(1, 1) = 1", "peak(1, 0) = 20",
                        "peak(1, 1) = 107", "quiet() = -4", "rise(1) = -4")
                .then("planDoor(1, 5000, 1)").keeps("peak(1, 0) = 20", "rise(0) = -4").then("cancel(1)", "open(1, 10)")
                // of the last sound's steps 5 each are on their way for 5 steps: 25, 20, 15, 10
                .keeps("doorOf(1, 5) = 0", "quiet() = 23");
        // a rise that comes by a delay
        sentence("beyond the step 5000, too").then("room(10, 0)", "room(10, 0)", "door(0, 1, 10, 10, 5)")
                .times(100, "pass(50)").then("sound(0, 5000, 1, 5)").keeps("rise(1) = -4", "peak(0, 1) = 5", "quiet() = 1")
                .then("set(1, 0)").keeps("quiet() = -4")
                .then("undo()", "undo()", "undo()", "sound(0, 4950, 1, 5)", "pass(49)", "open(0, 10)", "pass(1)")
                .keeps("count(3) = 5000", "rise(1) = 5", "peak(1, 0) = 5");
    }

    private void plannedTargetsAreGiven() {
        String sentence = "the targets of the plan are given";
        sentence(sentence).then(STANDING).then("planDoor(0, 1, 10)").keeps("tail(0) = 1")
                .then("cancel(0)", "planDoor(0, 2, 10)")
                .keeps("tail(0) = 2", "tailWith(0, 0, 10) = 1", "tailWith(0, 0, 0) = 2");
        // of several in one step the latest, of a locked door none
        sentence(sentence).then(STANDING).then("planDoor(0, 3, 0)", "planDoor(0, 3, 10)").keeps("tail(0) = 3")
                .then("planDoor(0, 3, 0)").keeps("tail(0) = -4").then("planDoor(0, 9, 10)").keeps("tail(0) = 9")
                .then("lock(0, 1)").keeps("tail(0) = -4", "tailWith(0, 0, 10) = -4", "bestDoor(0, 0) = -4");
        sentence(sentence)
                .then("room(10, 0)", "room(10, 0)", "door(0, 1, 10, 10, 0)", "planDoor(0, 2, 10)", "sound(0, 0, 1, 50)",
                        "set(1, 0)")
                .keeps("rise(1) = -4", "peak(1, 0) = 3", "peak(1, 1) = 50", "peak(0, 0) = 1", "quiet() = -4")
                .then("pass(1)").keeps("rise(1) = 2", "rise(0) = 3", "tail(0) = 2");
    }

    private void nothingChanges() {
        Story busy = sentence("Nothing changes by foretelling.")
                .then("room(100, 10)", "room(50, 0)", "room(10, 7)", "door(0, 1, 20, 3, 2)", "door(1, 8, 7, 4, 1)",
                        "door(2, 1, 10, 10, 5)", "sound(0, 0, 20, 1000)", "planDoor(0, 3, 9)", "open(1, 9)",
                        "sound(2, 1, 1, 44)", "planDoor(2, 1, 10)", "pass(2)", "planDoor(2, 8, 0)")
                .text("s0@9*1=5;");
        String[] questions = {
            "tail(0)", "tail(1)", "tailWith(0, 0, 10)", "tailWith(0, 1, 0)", "tailWith(2, 2, 0)", "bestDoor(0, 0)",
            "bestDoor(0, 1)", "bestDoor(2, 0)", "rise(0)", "rise(1)", "peak(0, 0)", "peak(1, 1)", "quiet()", "fell(0, 1)"
        };
        for (String question : questions) {
            busy.keeps(question + " = " + busy.answerTo(question));
        }
        // nor by many of them
        Run many = new Run(check)
                .after("room(100, 10)", "door(0, 8, 20, 3, 2)", "sound(0, 0, 20, 1000)", "pass(2)", "open(0, 9)")
                .times(20, "peak(0, 0)", "tail(0)", "bestDoor(0, 0)", "quiet()", "rise(0)", "tailWith(0, 0, 3)");
        many.calls("count(2) = 1", "count(3) = 2", "count(4) = 1970", "count(10) = 0", "count(11) = 4",
                        "doorOf(0, 5) = 0", "doorOf(0, 6) = 9", "roomOf(0, 8) = 1");
    }

    private void thousandths() {
        String sentence = "behind how many steps its energy is at most (what it is now) / 1000 for the first time";
        // absorption, energy, tail: what is left of it is energy * (1000 - absorption) / 1000, rounded down
        int[][] edges = {
            {999, 1000, 1}, {998, 1000, 2}, {999, 999, 1}, {998, 999, 2}, {998, 500, 2}, {998, 499, 1}, {999, 1999, 1},
            {999, 2000, 1}, {998, 1500, 2}, {1000, 1, 1}, {1, 1, 1}, {1000, 1000000, 1}, {999, 1000000, 1}, {998, 1000000, 2},
            {0, 1, -4}, {0, 1000000, -4}, {1, 2, 2}, {500, 1, 1}, {500, 2, 2}, {500, 1000, 9}, {500, 999, 10}
        };
        for (int[] edge : edges) {
            // it is heard in a room that absorbs nothing, and comes through a door, which is shut then
            sentence(sentence)
                    .then("room(10, 0)", "room(10, " + edge[0] + ")", "door(0, 1, 10, 10, 0)", "planDoor(0, 0, 10)",
                            "planDoor(0, 1, 0)", "sound(0, 0, 1, " + edge[1] + ")", "pass(1)")
                    .keeps("roomOf(1, 2) = " + edge[1], "tail(1) = " + edge[2]);
        }
        // it comes back later: the first time counts
        sentence(sentence)
                .then("room(10, 0)", "room(10, 0)", "door(0, 1, 10, 10, 0)", "sound(0, 0, 1, 1000)", "pass(1)",
                        "open(0, 10)")
                .keeps("tail(0) = 1", "peak(0, 0) = 0").then("pass(1)")
                .keeps("roomOf(0, 2) = 0", "tail(0) = -2", "tail(1) = 1");
        // now it is a tail, too, at first it rises: 10, 510, 0
        sentence(sentence)
                .then("room(10, 0)", "room(10, 0)", "door(0, 1, 10, 10, 0)", "sound(0, 0, 1, 10)", "sound(1, 0, 1, 510)",
                        "pass(1)", "open(0, 10)")
                .keeps("tail(0) = -4", "tail(1) = -4", "rise(0) = 1");
    }

    private void tailsWithoutSounds() {
        String sentence = "if the sounds of the plan are left out, those that have begun, too";
        sentence(sentence).then("room(10, 500)", "sound(0, 0, 20, 2000)", "pass(1)")
                .keeps("roomOf(0, 2) = 1000", "roomOf(0, 8) = 1", "tail(0) = 9", "rise(0) = -4")
                .then("sound(0, 1, 1, 9)", "sound(0, 2, 20, 9)")
                .keeps("tail(0) = 9", "rise(0) = -4", "bestDoor(0, 0) = -4");
        // they amount to nothing by the way of another room either
        sentence(sentence)
                .then("room(10, 500)", "room(10, 0)", "door(1, 0, 10, 10, 0)", "sound(0, 0, 1, 2000)", "pass(1)",
                        "open(0, 10)", "sound(1, 1, 20, 1000000)")
                .keeps("rise(0) = 2", "tail(1) = -2").then("cancel(0)").keeps("rise(0) = 2");
    }

    private void errorsOfTails() {
        sentence("NOT_POSSIBLE if it has no energy; NOT_FOUND if it is more than 200.")
                .then("room(10, 0)", "room(10, 0)", "door(0, 8, 1, 1, 0)", "sound(0, 0, 2, 1)")
                .keeps("tail(0) = -2", "tail(2) = -1", "tail(8) = -1", "tail(-1) = -1", "tail(" + MOST + ") = -1",
                        "tailWith(0, 0, 0) = -2", "bestDoor(0, 0) = -2", "bestDoor(0, 1) = -2")
                .then("pass(1)")
                .keeps("tail(0) = -4", "tail(1) = -2", "tailWith(0, 0, 0) = -4", "tailWith(1, 0, 0) = -2",
                        "bestDoor(1, 0) = -2", "bestDoor(0, 0) = -4");
        sentence("INVALID_ARGUMENT is returned rather than NOT_POSSIBLE").then("room(10, 0)", "door(0, 8, 1, 1, 0)")
                .keeps("tailWith(0, 1, 0) = -1", "tailWith(0, -1, 0) = -1", "tailWith(0, 0, 11) = -1",
                        "tailWith(0, 0, -1) = -1", "tailWith(1, 0, 0) = -1", "tailWith(0, 0, " + LEAST + ") = -1",
                        "bestDoor(0, 2) = -1", "bestDoor(0, -1) = -1", "bestDoor(1, 0) = -1",
                        "bestDoor(0, " + MOST + ") = -1");
    }

    private void firstTargets() {
        String sentence = "As tail(), if a door first had another target, be it refused or not; of a locked door the target does not change.";
        sentence(sentence).then(STANDING).keeps("tail(0) = -4", "tailWith(0, 0, 10) = 1", "tailWith(0, 0, 0) = -4")
                .then("set(0, 0)").keeps("refusal(0, 10) = 0");
        sentence(sentence).then("room(10, 0)", "door(0, 8, 10, 10, 0)", "sound(0, 0, 1, 50)", "pass(1)", "set(0, 0)")
                .keeps("refusal(0, 10) = 3", "tailWith(0, 0, 10) = 1", "refusal(0, 0) = 2", "tailWith(0, 0, 0) = -4")
                .then("lock(0, 1)").keeps("refusal(0, 10) = 1", "tailWith(0, 0, 10) = -4");
        // an open door that is shut, and the same one locked: 50, 25, 13, 7, 4, 2, 1 and no more
        sentence(sentence)
                .then("room(10, 0)", "door(0, 8, 10, 10, 0)", "planDoor(0, 1, 5)", "sound(0, 1, 1, 100)", "pass(2)")
                .keeps("roomOf(0, 2) = 50", "tailWith(0, 0, 0) = -4", "tailWith(0, 0, 5) = -4", "tail(0) = -4",
                        "tailWith(0, 0, 10) = 1")
                .then("lock(0, 1)").keeps("tailWith(0, 0, 10) = -4");
        // a target of the plan for the present step comes behind the first one, a later one replaces it then
        sentence(sentence)
                .then("room(10, 0)", "door(0, 8, 10, 1, 0)", "sound(0, 0, 1, 50)", "pass(1)", "planDoor(0, 1, 0)",
                        "planDoor(0, 5, 10)")
                .keeps(
                        // shut for four steps, then 50, 45, 36, 26, 16, 8, 4, 2, 1, 1, 0
                        "tailWith(0, 0, 10) = 14", "tail(0) = 14");
    }

    private void bestDoors() {
        // it is the twelfth door
        Story twelve = sentence("0: 100 * (the door) + (the target); 1: the tail then").then("room(100, 0)")
                .times(11, "door(0, 8, 1, 10, 0)").then("door(0, 8, 89, 10, 0)", "sound(0, 0, 1, 10000)", "pass(1)");
        twelve.keeps("bestDoor(0, 0) = 1110", "bestDoor(0, 1) = " + twelve.answerTo("tailWith(0, 11, 10)"));
        sentence("its target 0 or 10")
                .then("room(10, 500)", "room(10, 0)", "door(1, 0, 5, 10, 0)", "open(0, 10)", "sound(1, 0, 1, 1000000)",
                        "pass(1)")
                .keeps("tailWith(0, 0, 0) = 10", "bestDoor(0, 0) = 0", "bestDoor(0, 1) = 10");
        // a target between them would be better, but is none of them
        sentence("its target 0 or 10")
                .then("room(10, 0)", "room(10, 100)", "door(0, 1, 2, 10, 2)", "planDoor(0, 0, 10)",
                        "sound(0, 0, 1, 10000)", "sound(1, 0, 1, 1)", "pass(1)")
                .keeps("tail(0) = 177", "tailWith(0, 0, 6) = 170", "tailWith(0, 0, 0) = -4", "tailWith(0, 0, 10) = 177",
                        "bestDoor(0, 0) = -4", "bestDoor(0, 1) = -4");
        // the door need not be one of the room
        sentence("Finds the one of all doors")
                .then("room(10, 0)", "room(10, 0)", "door(0, 1, 5, 10, 0)", "door(1, 8, 5, 10, 0)", "planDoor(0, 0, 10)",
                        "sound(0, 0, 1, 1000)", "pass(1)")
                .keeps("tail(0) = -4", "tailWith(0, 1, 10) = -4", "bestDoor(0, 0) = -4");
        sentence("Finds the one of all doors")
                .then("room(10, 0)", "room(10, 0)", "door(0, 1, 5, 10, 0)", "door(1, 8, 5, 10, 0)", "planDoor(0, 0, 10)",
                        "sound(0, 0, 1, 1000000)", "pass(1)")
                .keeps("tail(0) = -4", "bestDoor(0, 0) = 110");
    }

    private void equalDoors() {
        sentence("of several the lowest door, then the target 0")
                .then("room(30, 0)", "door(0, 8, 10, 5, 0)", "door(0, 8, 10, 5, 1)", "door(0, 8, 10, 5, 0)",
                        "sound(0, 0, 1, 5000)", "pass(1)")
                .keeps("bestDoor(0, 0) = 10").then("lock(0, 1)").keeps("bestDoor(0, 0) = 110").then("lock(1, 1)")
                .keeps("bestDoor(0, 0) = 210").then("lock(2, 1)").keeps("bestDoor(0, 0) = -4");
        sentence("of several the lowest door, then the target 0")
                .then("room(10, 514)", "room(10, 0)", "door(1, 0, 8, 9, 5)", "open(0, 8)", "sound(0, 0, 1, 1526)",
                        "sound(1, 0, 1, 5778)", "pass(6)")
                .keeps("tailWith(0, 0, 0) = 11", "tailWith(0, 0, 10) = 11", "bestDoor(0, 0) = 0");
        // a later door that is better by one step
        sentence("by which the tail of a room would be shortest")
                .then("room(200, 15)", "door(0, 8, 98, 10, 0)", "door(0, 8, 102, 10, 0)", "sound(0, 0, 1, 1000)",
                        "pass(1)")
                .keeps("tailWith(0, 0, 10) = 11", "tailWith(0, 1, 10) = 10", "bestDoor(0, 0) = 110", "bestDoor(0, 1) = 10");
    }

    private void noBetterDoor() {
        String sentence = "NOT_FOUND if no tail by these is shorter than tail() tells";
        sentence(sentence).then("room(10, 500)", "sound(0, 0, 1, 10)", "pass(1)")
                .keeps("tail(0) = 3", "bestDoor(0, 0) = -4", "bestDoor(0, 1) = -4");
        // it opens of itself: as soon as the best one, and a step later
        sentence(sentence).then(STANDING).then("planDoor(0, 1, 10)")
                .keeps("tail(0) = 1", "tailWith(0, 0, 10) = 1", "bestDoor(0, 0) = -4")
                .then("cancel(0)", "planDoor(0, 2, 10)").keeps("tail(0) = 2", "bestDoor(0, 0) = 10", "bestDoor(0, 1) = 1");
        sentence(sentence).then(STANDING).then("open(0, 10)").keeps("tail(0) = 1", "bestDoor(0, 0) = -4");
    }

    private void rises() {
        String sentence = "behind how many steps it has more energy than ahead of the last one of them";
        // as much is no rise
        sentence(sentence).then("room(10, 0)", "room(10, 0)", "sound(0, 0, 1, 5)").keeps("rise(0) = -4", "rise(1) = -4")
                .then("pass(1)").keeps("rise(0) = -4");
        sentence(sentence)
                .then("room(10, 0)", "room(10, 0)", "door(0, 1, 10, 10, 0)", "open(0, 10)", "sound(0, 0, 1, 50)",
                        "sound(1, 0, 1, 50)", "pass(1)")
                .keeps("roomOf(0, 2) = 50", "rise(0) = -4", "rise(1) = -4").then("sound(1, 1, 1, 1)", "pass(1)")
                .keeps("roomOf(0, 2) = 51", "roomOf(1, 2) = 50", "rise(0) = 2", "rise(1) = 1");
        // falls first, and the second rise is not the first one
        sentence(sentence)
                .then("room(10, 500)", "room(10, 0)", "door(0, 1, 5, 10, 5)", "open(0, 10)", "sound(0, 0, 1, 800)",
                        "pass(1)")
                .keeps("rise(0) = 11", "rise(1) = 5").then("pass(10)").keeps("rise(0) = 1").then("pass(1)")
                .keeps("rise(0) = 12");
        sentence("INVALID_ARGUMENT; NOT_FOUND if there is none within 200 steps.").keeps("rise(0) = -1")
                .then("room(10, 0)")
                .keeps("rise(0) = -4", "rise(1) = -1", "rise(-1) = -1", "rise(8) = -1", "rise(" + MOST + ") = -1",
                        "rise(" + LEAST + ") = -1");
    }

    private void peaks() {
        sentence("0: behind how many steps it has it first").then("room(10, 0)").keeps("peak(0, 0) = 0", "peak(0, 1) = 0")
                .then("sound(0, 0, 1, 5)").keeps("peak(0, 0) = 1", "peak(0, 1) = 5").then("pass(1)")
                .keeps("peak(0, 0) = 0", "peak(0, 1) = 5").then("sound(0, 7, 1, 1)")
                .keeps("peak(0, 0) = 7", "peak(0, 1) = 6");
        // it has as much again, and less, and more by one
        sentence("0: behind how many steps it has it first")
                .then("room(10, 1000)", "room(10, 0)", "door(1, 0, 10, 10, 0)", "planDoor(0, 0, 10)", "sound(1, 0, 1, 50)",
                        "sound(1, 3, 1, 50)", "sound(1, 6, 1, 51)", "sound(1, 8, 1, 50)")
                .keeps("peak(0, 0) = 7", "peak(0, 1) = 51").then("pass(1)").keeps("roomOf(0, 2) = 50", "peak(0, 0) = 6")
                .then("cancel(1)").keeps("plan(1, 0) = 8", "peak(0, 0) = 0", "peak(0, 1) = 50");
        sentence("with the sounds of the plan").then("room(10, 0)", "sound(0, 0, 20, 7)", "pass(5)")
                .keeps("peak(0, 0) = 15", "peak(0, 1) = 140").then("cancel(0)").keeps("peak(0, 0) = 0", "peak(0, 1) = 35");
        sentence("INVALID_ARGUMENT if an argument is out of range.").keeps("peak(0, 0) = -1").then("room(10, 0)")
                .keeps("peak(0, 2) = -1", "peak(0, -1) = -1", "peak(1, 0) = -1", "peak(-1, 0) = -1", "peak(8, 1) = -1",
                        "peak(0, " + MOST + ") = -1");
        Story much = sentence("1: this energy").then("room(10, 0)").hears(0, 960000000);
        much.then("sound(0, 60, 20, 1000000)", "sound(0, 60, 20, 1000000)")
                .keeps("peak(0, 0) = 20", "peak(0, 1) = 1000000000");
    }

    private void quietness() {
        String sentence = "all energy in rooms and on its way is together at most what is quiet";
        sentence("Returns the number of steps, 0 if it is so now").keeps("quiet() = 0").then("room(10, 0)")
                .keeps("quiet() = 0");
        sentence(sentence).then("room(10, 0)", "room(10, 0)", "sound(0, 0, 1, 6)", "sound(1, 0, 1, 4)", "pass(1)")
                .keeps("quiet() = 0").then("set(1, 9)").keeps("quiet() = -4").then("set(1, 10)").keeps("quiet() = 0")
                .then("sound(0, 1, 1, 1)", "pass(1)").keeps("quiet() = -4");
        sentence(sentence).then("room(10, 0)", "set(1, 0)").keeps("quiet() = 0").then("sound(0, 0, 1, 1)", "pass(1)")
                .keeps("quiet() = -4");
        sentence(sentence).then("room(10, 0)", "set(1, 1000000)", "sound(0, 0, 1, 1000000)", "pass(1)")
                .keeps("quiet() = 0").then("sound(0, 1, 1, 1)", "pass(1)").keeps("quiet() = -4");
        // 50, 25, 12, 6
        sentence("for the first time").then("room(10, 500)", "sound(0, 0, 1, 100)", "pass(1)")
                .keeps("roomOf(0, 2) = 50", "quiet() = 3").then("set(1, 12)").keeps("quiet() = 2").then("set(1, 11)")
                .keeps("quiet() = 3").then("set(1, 49)").keeps("quiet() = 1").then("set(1, 50)").keeps("quiet() = 0");
        sentence("and no sound is in the plan any more").then("room(10, 0)", "sound(0, 5, 3, 1)").keeps("quiet() = 8")
                .then("pass(7)").keeps("quiet() = 1").then("pass(1)").keeps("quiet() = 0");
        // sounds in another room than the one that is loud, and targets, which are no sounds
        sentence("and no sound is in the plan any more").then("room(10, 0)", "door(0, 8, 1, 1, 0)", "planDoor(0, 50, 3)")
                .keeps("quiet() = 0").then("sound(0, 9, 1, 10)").keeps("quiet() = 10").then("cancel(0)")
                .keeps("quiet() = 0");
        sentence("and no sound is in the plan any more").then("room(10, 0)", "sound(0, 199, 1, 1)").keeps("quiet() = 200")
                .then("sound(0, 199, 2, 1)").keeps("quiet() = -4").then("pass(1)").keeps("quiet() = 200");
    }

    private void quietOnItsWay() {
        sentence("in rooms and on its way is together")
                .then("room(10, 0)", "door(0, 8, 10, 10, 5)", "sound(0, 0, 1, 11)", "open(0, 10)").keeps("quiet() = 6")
                .then("pass(1)").keeps("count(4) = 0", "count(5) = 11", "quiet() = 5").then("set(1, 11)")
                .keeps("quiet() = 0");
        sentence("in rooms and on its way is together")
                .then("room(20, 0)", "door(0, 8, 10, 10, 5)", "sound(0, 0, 1, 20)", "open(0, 10)", "pass(1)", "open(0, 0)")
                .keeps("count(4) = 10", "count(5) = 10", "quiet() = 5").then("set(1, 19)").keeps("quiet() = 5")
                .then("set(1, 20)").keeps("quiet() = 0").then("set(1, 9)").keeps("quiet() = -4");
    }

    private void falls() {
        String sentence = "Returns 100 + (the level then) - (the level now)";
        // 8, 4, 2, 1
        sentence(sentence).then("room(10, 500)", "sound(0, 0, 1, 16)", "pass(4)")
                .keeps("roomOf(0, 2) = 1", "fell(0, 1) = 101", "fell(0, 2) = 102", "fell(0, 3) = 103", "fell(0, 4) = -4",
                        "fell(0, 5) = -2");
        sentence(sentence).then("room(10, 0)", "sound(0, 0, 1, 1)", "pass(1)", "pass(1)").keeps("fell(0, 1) = 100")
                .then("sound(0, 2, 1, 1)", "pass(1)").keeps("fell(0, 1) = 99", "fell(0, 2) = 99")
                .then("sound(0, 3, 1, 1)", "pass(1)").keeps("fell(0, 1) = 100", "fell(0, 2) = 99");
        // the greatest rise and the greatest fall
        sentence(sentence).then("room(10, 0)", "room(10, 0)", "door(0, 1, 10, 10, 0)").hears(0, 960000000)
                .times(2, "sound(0, 60, 19, 1000000)").then("sound(1, 60, 1, 1)", "planDoor(0, 79, 10)", "pass(20)")
                .keeps("roomOf(1, 2) = 998000000", "fell(1, 1) = 71", "roomOf(0, 2) = 1", "fell(0, 1) = 129");
        sentence("NOT_FOUND if it had no energy then, or has none now.")
                .then("room(10, 1000)", "sound(0, 0, 1, 5)", "pass(2)").keeps("fell(0, 1) = -4", "fell(0, 2) = -4");
        sentence("NOT_FOUND if it had no energy then, or has none now.")
                .then("room(10, 0)", "door(0, 8, 10, 10, 0)", "sound(0, 1, 1, 1)", "pass(2)").keeps("fell(0, 1) = -4")
                .then("pass(1)").keeps("fell(0, 1) = 100", "fell(0, 2) = -4").then("open(0, 10)", "pass(1)")
                .keeps("fell(0, 1) = -4");
        sentence("steps: 1 to 32").then("room(10, 0)", "sound(0, 0, 1, 4)", "pass(50)")
                .keeps("fell(0, 0) = -1", "fell(0, 33) = -1", "fell(0, -1) = -1", "fell(0, " + LEAST + ") = -1",
                        "fell(0, " + MOST + ") = -1", "fell(0, 1) = 100", "fell(0, 32) = 100", "fell(1, 1) = -1",
                        "fell(-1, 1) = -1");
        sentence("or fewer steps have gone by").then("room(10, 0)")
                .keeps("fell(0, 1) = -2", "fell(0, 32) = -2", "fell(0, 0) = -1", "fell(0, 33) = -1", "fell(1, 1) = -1")
                .then("sound(0, 0, 1, 4)", "pass(1)").keeps("fell(0, 1) = -4", "fell(0, 2) = -2").then("pass(30)")
                .keeps("fell(0, 30) = 100", "fell(0, 31) = -4", "fell(0, 32) = -2").then("pass(1)")
                .keeps("fell(0, 31) = 100", "fell(0, 32) = -4").then("pass(1)").keeps("fell(0, 32) = 100");
    }

    private void fallsOfThirtyTwoSteps() {
        // 2 to the power of (a step modulo 20) would be mistaken for another step's
        Story levels = sentence("by how much the level of a room is less than it was some steps ago")
                .then("room(10, 1000)", "room(10, 0)", "door(1, 0, 10, 10, 0)", "planDoor(0, 0, 10)");
        for (int step = 0; step < 60; step++) {
            levels.then("sound(1, " + step + ", 1, " + (1 << step * 7 % 19) + ")", "pass(1)");
        }
        for (int steps = 1; steps <= 32; steps++) {
            // what was heard in a step is in room 0 at its end
            levels.keeps("fell(0, " + steps + ") = " + (100 + (59 - steps) * 7 % 19 - 59 * 7 % 19));
        }
        // undone steps leave no trace
        levels.then("pass(1)", "sound(1, 61, 1, 9)", "pass(20)", "undo()", "undo()", "undo()");
        for (int steps = 1; steps <= 32; steps++) {
            levels.keeps("fell(0, " + steps + ") = " + (100 + (59 - steps) * 7 % 19 - 59 * 7 % 19));
        }
    }

    private void fallsOfRoomsThatCame() {
        String sentence = "NOT_POSSIBLE if the room was not there yet in that step (if it was added in it, it was there)";
        sentence(sentence).then("room(10, 0)", "pass(40)", "room(10, 0)", "sound(1, 40, 1, 4)", "sound(0, 40, 1, 4)")
                .keeps("fell(1, 1) = -2", "fell(1, 32) = -2", "fell(0, 1) = -4").then("pass(1)")
                .keeps("fell(1, 1) = -4", "fell(1, 2) = -2", "fell(0, 2) = -4").then("pass(1)")
                .keeps("fell(1, 1) = 100", "fell(1, 2) = -4", "fell(1, 3) = -2").then("pass(30)")
                .keeps("fell(1, 31) = 100", "fell(1, 32) = -4").then("pass(1)").keeps("fell(1, 32) = 100");
        // not there yet is told rather than without energy
        sentence(sentence).then("pass(5)", "room(10, 0)").keeps("fell(0, 1) = -2").then("pass(1)")
                .keeps("fell(0, 1) = -4", "fell(0, 2) = -2");
        // a room that is taken back and comes later
        sentence(sentence)
                .then("room(10, 0)", "pass(3)", "undo()", "undo()", "pass(2)", "room(10, 0)", "sound(0, 2, 1, 4)",
                        "pass(2)")
                .keeps("fell(0, 1) = 100", "fell(0, 2) = -4", "fell(0, 3) = -2");
    }
}
