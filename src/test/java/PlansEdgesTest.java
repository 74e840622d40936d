/** The sentences of the document that name boundary cases of sounds, plans and ways, each with a test of its own. */
public final class PlansEdgesTest {
    private static final String LEAST = "-2147483648";
    private static final String MOST = "2147483647";
    private static final String[] ROOM_AND_DOOR = {"room(10, 0)", "door(0, 8, 1, 1, 0)"};

    private final Check check = new Check("PlansEdgesTest");

    public static void main(String[] args) {
        PlansEdgesTest test = new PlansEdgesTest();
        test.sounds();
        test.plannedTargets();
        test.pastSteps();
        test.fullPlans();
        test.allEnergy();
        test.orderOfErrors();
        test.orderOfThePlan();
        test.cancelling();
        test.askingThePlan();
        test.passing();
        test.ways();
        test.waysThatAreNone();
        test.check.end();
    }

    private Story sentence(String words) {
        check.promise('"' + words + '"');
        return new Story(check);
    }

    private void sounds() {
        sentence("step: its first step, 0 to 5000").then("room(10, 0)")
                .changes("sound(0, 0, 2, 7) = 1", "sound(0, 1, 2, 7) = 1", "sound(0, 4999, 2, 7) = 1",
                        "sound(0, 5000, 20, 7) = 1")
                .keeps("sound(0, -1, 2, 7) = -1", "sound(0, 5001, 2, 7) = -1", "sound(0, " + LEAST + ", 2, 7) = -1",
                        "sound(0, " + MOST + ", 2, 7) = -1");
        sentence("steps: 1 to 20").then("room(10, 0)").changes("sound(0, 3, 1, 7) = 1", "sound(0, 3, 20, 7) = 1")
                .keeps("sound(0, 3, 0, 7) = -1", "sound(0, 3, 21, 7) = -1", "sound(0, 3, -1, 7) = -1",
                        "sound(0, 3, " + LEAST + ", 7) = -1", "sound(0, 3, " + MOST + ", 7) = -1")
                .then("sound(0, 3, 1, 7)", "sound(0, 4, 20, 8)")
                .keeps("plan(0, 3) = 1", "plan(1, 3) = 20", "count(9) = 167");
        sentence("energy: for each step, 1 to 1000000").then("room(10, 0)")
                .changes("sound(0, 3, 2, 1) = 1", "sound(0, 3, 2, 1000000) = 1")
                .keeps("sound(0, 3, 2, 0) = -1", "sound(0, 3, 2, 1000001) = -1", "sound(0, 3, 2, -1) = -1",
                        "sound(0, 3, 2, " + LEAST + ") = -1", "sound(0, 3, 2, " + MOST + ") = -1")
                .then("sound(0, 3, 2, 1)", "sound(0, 4, 2, 1000000)")
                .keeps("plan(0, 4) = 1", "plan(1, 4) = 1000000", "count(9) = 2000002");
        Story heard = sentence("it is heard in its room in each of these steps")
                .then("room(10, 0)", "room(10, 0)", "sound(1, 2, 3, 7)");
        int[] given = {0, 0, 7, 14, 21, 21, 21};
        for (int step = 0; step < given.length; step++) {
            heard.then("pass(1) = " + (step + 1))
                    .keeps("roomOf(1, 6) = " + given[step], "roomOf(1, 2) = " + given[step], "roomOf(0, 6) = 0",
                            "count(8) = " + given[step], "count(2) = " + (step < 4 ? 1 : 0));
        }
        sentence("it is heard in its room in each of these steps")
                .then("room(10, 0)", "sound(0, 0, 20, 1)", "sound(0, 0, 1, 100)").keeps("roomOf(0, 8) = 2").then("pass(1)")
                .keeps("roomOf(0, 2) = 101", "count(2) = 1").then("pass(18)").keeps("roomOf(0, 2) = 119", "count(2) = 1")
                .then("pass(1)").keeps("roomOf(0, 2) = 120", "count(2) = 0").then("pass(1)").keeps("roomOf(0, 2) = 120");
    }

    private void plannedTargets() {
        sentence("step: 0 to 5000").then(ROOM_AND_DOOR).changes("planDoor(0, 0, 5) = 1", "planDoor(0, 5000, 5) = 1")
                .keeps("planDoor(0, -1, 5) = -1", "planDoor(0, 5001, 5) = -1", "planDoor(0, " + LEAST + ", 5) = -1",
                        "planDoor(0, " + MOST + ", 5) = -1");
        sentence("target: 0 to 10").then(ROOM_AND_DOOR).changes("planDoor(0, 3, 0) = 1", "planDoor(0, 3, 10) = 1")
                .keeps("planDoor(0, 3, -1) = -1", "planDoor(0, 3, 11) = -1", "planDoor(0, 3, " + LEAST + ") = -1",
                        "planDoor(0, 3, " + MOST + ") = -1");
        // neither of a locked door nor of a guarded one a target is refused
        sentence("Plans a target of a door.").then(ROOM_AND_DOOR)
                .then("set(0, 0)", "sound(0, 0, 1, 100)", "pass(1)", "lock(0, 1)")
                .changes("planDoor(0, 1, 10) = 1", "planDoor(0, 1, 0) = 1");
    }

    private void pastSteps() {
        String sentence = "NOT_POSSIBLE if step is less than the present one";
        sentence(sentence).then(ROOM_AND_DOOR).then("pass(3)")
                .keeps("sound(0, 2, 1, 1) = -2", "sound(0, 0, 20, 1) = -2", "planDoor(0, 2, 1) = -2",
                        "planDoor(0, 0, 1) = -2")
                .changes("sound(0, 3, 1, 1) = 1", "planDoor(0, 3, 1) = 1", "sound(0, 4, 1, 1) = 1",
                        "planDoor(0, 4, 1) = 1");
        sentence(sentence).then(ROOM_AND_DOOR).times(100, "pass(50)")
                .keeps("count(3) = 5000", "sound(0, 4999, 1, 1) = -2", "sound(0, 5001, 1, 1) = -1",
                        "planDoor(0, 4999, 1) = -2", "planDoor(0, 5001, 1) = -1")
                .changes("sound(0, 5000, 20, 1) = 1", "planDoor(0, 5000, 10) = 1");
    }

    private void fullPlans() {
        String sentence = "LIMIT_REACHED if the plan has 16 entries";
        for (String first : new String[] {"sound(0, 9, 1, 1)", "planDoor(0, 9, 1)"}) {
            sentence(sentence).then(ROOM_AND_DOOR).times(15, first)
                    .keeps("count(2) = 15", "plan(14, 0) = 9", "plan(15, 0) = -4")
                    .changes("sound(0, 9, 1, 1) = 16", "planDoor(0, 9, 1) = 16", "sound(0, 0, 1, 1) = 16",
                            "planDoor(0, 5000, 1) = 16")
                    .then(first + " = 16")
                    .keeps("sound(0, 9, 1, 1) = -3", "planDoor(0, 9, 1) = -3", "sound(0, 0, 1, 1) = -3",
                            "planDoor(0, 5000, 1) = -3", "plan(15, 0) = 9", "plan(16, 0) = -4", "cancel(16) = -1")
                    .changes("cancel(15) = 15", "cancel(0) = 15").then("cancel(7)")
                    .changes("sound(0, 9, 1, 1) = 16", "planDoor(0, 9, 1) = 16");
        }
        // a sound stays in the plan until it has ended, a target until its step
        sentence("The plan has at most 16 entries: sounds that have not ended").then(ROOM_AND_DOOR)
                .times(16, "sound(0, 0, 2, 1)").then("pass(1)").keeps("count(2) = 16", "sound(0, 5, 1, 1) = -3")
                .then("pass(1)").keeps("count(2) = 0").changes("sound(0, 5, 1, 1) = 1");
        sentence("and targets that doors will have from a step on").then(ROOM_AND_DOOR).times(16, "planDoor(0, 1, 1)")
                .then("pass(1)").keeps("count(2) = 16", "planDoor(0, 5, 1) = -3").then("pass(1)").keeps("count(2) = 0")
                .changes("planDoor(0, 5, 1) = 1");
        // undo makes place again
        sentence(sentence).then(ROOM_AND_DOOR).times(16, "planDoor(0, 1, 1)").then("undo() = 3")
                .changes("planDoor(0, 1, 1) = 16");
    }

    private Story nearlyAllEnergy() {
        return sentence("The energy of all sounds that were ever told, (steps) * (energy) each, is together at most 1000000000").then(
                ROOM_AND_DOOR).times(49, "sound(0, 9, 20, 1000000)", "cancel(0)");
    }

    private void allEnergy() {
        nearlyAllEnergy().keeps("count(9) = 980000000", "count(2) = 0")
                .changes("sound(0, 9, 20, 1000000) = 1", "sound(0, 9, 19, 1000000) = 1")
                .then("sound(0, 9, 20, 999999) = 1")
                .keeps("count(9) = 999999980", "sound(0, 9, 20, 2) = -3", "sound(0, 9, 1, 21) = -3",
                        "sound(0, 9, 7, 3) = -3", "sound(0, 9, 20, 1000000) = -3")
                .changes("sound(0, 9, 20, 1) = 2", "sound(0, 9, 1, 20) = 2", "sound(0, 9, 10, 2) = 2",
                        "planDoor(0, 9, 1) = 2")
                .then("sound(0, 9, 5, 4) = 2").keeps("count(9) = 1000000000", "sound(0, 9, 1, 1) = -3")
                .changes("planDoor(0, 9, 1) = 3", "cancel(0) = 1", "load() = 0");
        check.promise("\"sounds that were cancelled count\"");
        nearlyAllEnergy().then("sound(0, 9, 20, 1000000) = 1", "cancel(0) = 0")
                .keeps("count(9) = 1000000000", "sound(0, 9, 1, 1) = -3");
        // those that have ended count, too, and those that are taken back do not
        nearlyAllEnergy().then("sound(0, 9, 20, 1000000) = 1", "pass(29)")
                .keeps("count(2) = 0", "count(9) = 1000000000", "sound(0, 29, 1, 1) = -3", "roomOf(0, 2) = 20000000");
        nearlyAllEnergy().then("sound(0, 9, 20, 1000000) = 1", "undo() = 3").keeps("count(9) = 980000000")
                .changes("sound(0, 9, 20, 1000000) = 1");
    }

    private void orderOfErrors() {
        String order = "INVALID_ARGUMENT is returned rather than NOT_POSSIBLE, NOT_POSSIBLE rather than LIMIT_REACHED";
        sentence(order).then(ROOM_AND_DOOR).then("pass(3)").times(16, "planDoor(0, 9, 1)")
                .keeps("planDoor(0, 2, 1) = -2", "planDoor(0, 2, 11) = -1", "planDoor(1, 2, 1) = -1",
                        "planDoor(0, -1, 1) = -1", "planDoor(0, 5001, 1) = -1", "planDoor(0, 3, 1) = -3",
                        "sound(0, 2, 1, 1) = -2", "sound(1, 2, 1, 1) = -1", "sound(0, 2, 0, 1) = -1",
                        "sound(0, 2, 1, 0) = -1", "sound(0, 2, 21, 1) = -1", "sound(0, 2, 1, 1000001) = -1",
                        "sound(0, 3, 1, 1) = -3");
        nearlyAllEnergy().then("sound(0, 9, 20, 1000000) = 1", "pass(1)")
                .keeps("sound(0, 0, 1, 1) = -2", "sound(0, 1, 1, 1) = -3", "sound(0, 0, 21, 1) = -1",
                        "sound(0, 1, 1, 0) = -1", "sound(1, 1, 1, 1) = -1");
        check.promise("\"" + order + "\"");
        new Story(check).then(ROOM_AND_DOOR).times(99, "pass(50)").then("pass(49)")
                .keeps("pass(2) = -3", "pass(50) = -3", "pass(51) = -1", "pass(0) = -1").changes("pass(1) = 5000");
    }

    private void orderOfThePlan() {
        Story plan = sentence("It is in order by steps (of a sound the first one), of equal ones in the order in which they were told.")
                .then("room(10, 0)", "room(10, 0)", "door(0, 8, 1, 1, 0)", "door(0, 1, 1, 1, 0)");
        plan.goesOn("sound(0, 7, 20, 70) = 1", "planDoor(0, 7, 1) = 2", "sound(1, 7, 1, 72) = 3", "planDoor(1, 7, 3) = 4")
                .keeps("plan(0, 4) = 70", "plan(1, 4) = 1", "plan(2, 4) = 72", "plan(3, 4) = 3", "plan(3, 2) = 1",
                        "plan(4, 4) = -4")
                .goesOn("sound(0, 6, 2, 60) = 5", "planDoor(0, 8, 8) = 6", "planDoor(0, 6, 9) = 7",
                        "sound(0, 8, 1, 80) = 8", "planDoor(1, 0, 5) = 9")
                .keeps("plan(0, 0) = 0", "plan(0, 4) = 5", "plan(1, 4) = 60", "plan(2, 4) = 9", "plan(3, 4) = 70",
                        "plan(4, 4) = 1", "plan(5, 4) = 72", "plan(6, 4) = 3", "plan(7, 4) = 8", "plan(8, 4) = 80",
                        "plan(9, 0) = -4");
        // a sound that has begun keeps its place
        plan.then("pass(7)", "planDoor(0, 7, 6)")
                .keeps("count(2) = 8", "plan(0, 0) = 6", "plan(0, 3) = 2", "plan(0, 4) = 60", "plan(1, 4) = 70",
                        "plan(5, 4) = 6", "plan(6, 4) = 8")
                .then("pass(1)")
                .keeps("count(2) = 3", "plan(0, 0) = 7", "plan(0, 3) = 20", "plan(0, 4) = 70", "plan(1, 4) = 8",
                        "plan(2, 4) = 80");
    }

    private void cancelling() {
        sentence("INVALID_ARGUMENT if there is no such entry.").keeps("cancel(0) = -1", "cancel(-1) = -1")
                .then(ROOM_AND_DOOR).keeps("cancel(0) = -1").then("planDoor(0, 9, 1)").changes("cancel(0) = 0")
                .keeps("cancel(1) = -1", "cancel(-1) = -1").then("sound(0, 8, 1, 5)", "sound(0, 7, 1, 6)")
                .changes("cancel(0) = 2", "cancel(1) = 2", "cancel(2) = 2")
                .keeps("cancel(3) = -1", "cancel(" + LEAST + ") = -1", "cancel(" + MOST + ") = -1").then("cancel(1) = 2")
                .keeps("plan(0, 4) = 6", "plan(1, 4) = 1").then("cancel(1) = 1", "cancel(0) = 0")
                .keeps("cancel(0) = -1", "count(2) = 0");
        sentence("a sound that has begun ends by this").then("room(10, 0)", "sound(0, 0, 20, 5)", "pass(3)")
                .keeps("roomOf(0, 8) = 1").then("cancel(0) = 0").keeps("roomOf(0, 8) = 0", "roomOf(0, 2) = 15")
                .then("pass(5)").keeps("roomOf(0, 2) = 15", "roomOf(0, 6) = 15", "count(9) = 100");
        // ahead of its last step
        sentence("a sound that has begun ends by this")
                .then("room(10, 0)", "sound(0, 0, 2, 5)", "pass(1)", "cancel(0)", "pass(1)").keeps("roomOf(0, 2) = 5");
        sentence("Cancels an entry of the plan").then(ROOM_AND_DOOR)
                .then("planDoor(0, 1, 9)", "pass(1)", "cancel(0)", "pass(1)").keeps("doorOf(0, 6) = 0", "doorOf(0, 5) = 0");
    }

    private void askingThePlan() {
        String sentence = "INVALID_ARGUMENT if index is negative or what is out of range; NOT_FOUND if there are not so many.";
        sentence(sentence)
                .keeps("plan(0, 0) = -4", "plan(0, 4) = -4", "plan(15, 0) = -4", "plan(16, 0) = -4",
                        "plan(" + MOST + ", 0) = -4", "plan(-1, 0) = -1", "plan(" + LEAST + ", 0) = -1",
                        "plan(0, -1) = -1", "plan(0, 5) = -1", "plan(" + MOST + ", 5) = -1");
        Story plan = sentence(sentence).then(ROOM_AND_DOOR).then("sound(0, 5000, 20, 1000000)", "planDoor(0, 0, 10)");
        plan.keeps("plan(0, 0) = 0", "plan(0, 1) = 1", "plan(0, 2) = 0", "plan(0, 3) = 0", "plan(0, 4) = 10",
                        "plan(1, 0) = 5000", "plan(1, 1) = 0", "plan(1, 2) = 0", "plan(1, 3) = 20", "plan(1, 4) = 1000000",
                        "plan(2, 0) = -4", "plan(2, 4) = -4", "plan(2, 5) = -1", "plan(2, -1) = -1", "plan(-1, 4) = -1",
                        "plan(0, 5) = -1");
        plan.times(14, "sound(0, 3, 1, 2)").keeps("plan(15, 4) = 1000000", "plan(16, 4) = -4", "plan(14, 4) = 2");
        sentence(sentence).times(8, "room(30, 0)").times(12, "door(7, 6, 1, 1, 0)")
                .then("planDoor(11, 1, 1)", "sound(7, 2, 1, 1)").keeps("plan(0, 2) = 11", "plan(1, 2) = 7");
    }

    private void passing() {
        sentence("steps: 1 to 50").changes("pass(1) = 1", "pass(2) = 2", "pass(49) = 49", "pass(50) = 50")
                .keeps("pass(0) = -1", "pass(51) = -1", "pass(-1) = -1", "pass(" + LEAST + ") = -1",
                        "pass(" + MOST + ") = -1");
        Story late = sentence("LIMIT_REACHED if it would be greater than 5000.").times(99, "pass(50)")
                .then("pass(1) = 4951");
        late.changes("pass(49) = 5000", "pass(48) = 4999").keeps("pass(50) = -3").then("pass(48)")
                .changes("pass(1) = 5000").keeps("pass(2) = -3", "count(3) = 4999").then("pass(1)")
                .keeps("count(3) = 5000", "pass(1) = -3", "pass(50) = -3", "pass(51) = -1", "pass(0) = -1");
        late.then("undo() = 3").changes("pass(1) = 5000");
        // many steps at once are as many as one by one
        String[] busy = {
            "room(30, 7)", "room(20, 1)", "door(0, 1, 5, 3, 2)", "door(1, 8, 7, 1, 5)", "sound(0, 1, 20, 999)",
            "sound(1, 9, 5, 77)", "planDoor(0, 2, 9)", "planDoor(1, 4, 10)", "planDoor(0, 17, 2)"
        };
        Run atOnce = new Run(check).after(busy).after("pass(50)");
        Run oneByOne = new Run(check).after(busy).times(50, "pass(1)");
        String[] asked = {
            "count(2)", "count(3)", "count(4)", "count(5)", "count(6)", "count(7)", "count(8)", "count(10)", "roomOf(0, 2)",
            "roomOf(1, 2)", "roomOf(1, 5)", "doorOf(0, 9)", "doorOf(0, 10)", "doorOf(1, 9)", "doorOf(1, 8)", "fell(0, 32)",
            "fell(1, 9)"
        };
        check.promise("\"Lets steps go by.\"");
        for (String question : asked) {
            check.due(question + " behind 50 steps", atOnce.answer(question), oneByOne.answer(question));
        }
    }

    private void ways() {
        sentence("0 if both are the same").then("room(10, 0)", "room(10, 0)")
                .keeps("way(0, 0) = 0", "way(1, 1) = 0", "way(0, 1) = -4", "way(1, 0) = -4", "way(0, 8) = -4",
                        "way(8, 8) = -1", "way(8, 0) = -1", "way(2, 2) = -1");
        sentence("NOT_FOUND if there is no way by doors whose opening is above 0.")
                .then("room(10, 0)", "room(10, 0)", "door(0, 1, 1, 1, 0)").keeps("way(0, 1) = -4").then("open(0, 10)")
                .keeps("way(0, 1) = -4", "way(1, 0) = -4").then("pass(1)")
                .keeps("doorOf(0, 5) = 1", "way(0, 1) = 1", "way(1, 0) = 1").then("open(0, 0)").keeps("way(0, 1) = 1")
                .then("pass(1)").keeps("doorOf(0, 5) = 0", "way(0, 1) = -4", "way(1, 0) = -4");
        sentence("8: the outside").then("room(10, 0)", "room(10, 0)", "door(0, 8, 1, 1, 0)", "open(0, 1)", "pass(1)")
                .keeps("way(0, 8) = 1", "way(1, 8) = -4", "way(0, 1) = -4", "way(0, 2) = -1", "way(0, 7) = -1",
                        "way(0, 9) = -1", "way(0, -1) = -1", "way(-1, 8) = -1");
        // the longest ways: through seven doors to a room, through eight to the outside; told from the end and from the begin
        for (int turned = 0; turned < 2; turned++) {
            Story chain = sentence("Tells through how many open doors one comes from a room to another one")
                    .times(8, "room(10, 0)");
            for (int door = 0; door < 7; door++) {
                int room = turned == 0 ? door : 6 - door;
                chain.then("door(" + (room + turned) + ", " + (room + 1 - turned) + ", 1, 1, 0)", "open(" + door + ", 1)");
            }
            chain.then("door(7, 8, 1, 1, 0)", "open(7, 1)", "pass(1)")
                    .keeps("way(0, 7) = 7", "way(7, 0) = 7", "way(0, 8) = 8", "way(6, 8) = 2", "way(7, 8) = 1",
                            "way(1, 6) = 5", "way(6, 1) = 5");
        }
        // at the least: a door that leads straight there
        sentence("at the least").times(4, "room(10, 0)")
                .then("door(0, 1, 1, 1, 0)", "door(1, 2, 1, 1, 0)", "door(2, 3, 1, 1, 0)", "door(3, 0, 1, 1, 0)",
                        "open(0, 1)", "open(1, 1)", "open(2, 1)", "pass(1)")
                .keeps("way(0, 3) = 3").then("open(3, 1)", "pass(1)")
                .keeps("way(0, 3) = 1", "way(0, 2) = 2", "way(3, 0) = 1");
    }

    private void waysThatAreNone() {
        sentence("not by way of the outside").times(3, "room(10, 0)")
                .then("door(0, 8, 1, 1, 0)", "door(1, 8, 1, 1, 0)", "door(1, 2, 1, 1, 0)", "open(0, 1)", "open(1, 1)",
                        "open(2, 1)", "pass(1)")
                .keeps("way(0, 1) = -4", "way(1, 0) = -4", "way(0, 2) = -4", "way(2, 0) = -4", "way(0, 8) = 1",
                        "way(2, 8) = 2", "way(1, 2) = 1");
        // a longer way that leads by no outside
        sentence("not by way of the outside").times(5, "room(10, 0)")
                .then("door(0, 8, 1, 1, 0)", "door(4, 8, 1, 1, 0)", "door(0, 1, 1, 1, 0)", "door(1, 2, 1, 1, 0)",
                        "door(2, 3, 1, 1, 0)", "door(3, 4, 1, 1, 0)", "open(0, 1)", "open(1, 1)", "open(2, 1)",
                        "open(3, 1)", "open(4, 1)", "open(5, 1)", "pass(1)")
                .keeps("way(0, 4) = 4", "way(4, 0) = 4", "way(2, 8) = 3");
    }
}
