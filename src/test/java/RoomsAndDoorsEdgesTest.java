/** The sentences of the document that name boundary cases of rooms, doors and settings, each with a test of its own. */
public final class RoomsAndDoorsEdgesTest {
    private static final String LEAST = "-2147483648";
    private static final String MOST = "2147483647";

    private final Check check = new Check("RoomsAndDoorsEdgesTest");

    public static void main(String[] args) {
        RoomsAndDoorsEdgesTest test = new RoomsAndDoorsEdgesTest();
        test.newObject();
        test.rooms();
        test.thingsOfARoom();
        test.doors();
        test.areas();
        test.locks();
        test.settings();
        test.refusals();
        test.answersOfRooms();
        test.answersOfDoors();
        test.energyThatWrapsAround();
        test.counts();
        test.check.end();
    }

    private Story sentence(String words) {
        check.promise('"' + words + '"');
        return new Story(check);
    }

    private void newObject() {
        Story empty = sentence("Creates a house without rooms, at the step 0.");
        for (int what = 0; what <= 12; what++) {
            empty.keeps("count(" + what + ") = 0");
        }
        empty.keeps("count(20) = 1000000", "count(21) = 10", "undo() = -2", "plan(0, 0) = -4", "cancel(0) = -1",
                        "quiet() = 0", "fault(0) = -4", "fault(1) = -4", "clearText() = 0", "roomOf(0, 0) = -1",
                        "doorOf(0, 0) = -1", "way(0, 0) = -1", "way(8, 8) = -1", "tail(0) = -1", "rise(0) = -1",
                        "peak(0, 0) = -1", "fell(0, 1) = -1", "bestDoor(0, 0) = -1", "tailWith(0, 0, 0) = -1",
                        "refusal(0, 0) = -1", "door(0, 8, 1, 1, 0) = -1", "sound(0, 0, 1, 1) = -1",
                        "planDoor(0, 0, 0) = -1");
        empty.changes("room(10, 0) = 0", "set(0, 0) = 1000000", "set(1, 0) = 10", "pass(1) = 1", "load() = 0");
        // one house knows nothing of another one
        Run one = new Run(check).after("room(10, 0)", "sound(0, 0, 1, 5)", "set(0, 3)", "type(65)", "pass(1)");
        new Run(check)
                .calls("count(0) = 0", "count(2) = 0", "count(3) = 0", "count(4) = 0", "count(11) = 0", "count(12) = 0",
                        "count(20) = 1000000", "room(77, 7) = 0", "set(0, 4) = 1000000", "type(66) = 1", "pass(2) = 2");
        one.calls("roomOf(0, 0) = 10", "roomOf(0, 2) = 5", "count(20) = 3", "count(3) = 1", "count(12) = 1", "undo() = 3");
    }

    private void rooms() {
        Story rooms = sentence("There are at most 8 rooms, numbered from 0.");
        for (int room = 0; room < 8; room++) {
            rooms.keeps("count(0) = " + room, "roomOf(" + room + ", 0) = -1")
                    .goesOn("room(" + (10 + room) + ", 0) = " + room);
        }
        rooms.keeps("room(10, 0) = -3", "room(10000, 1000) = -3", "count(0) = 8", "roomOf(7, 0) = 17", "roomOf(8, 0) = -1");
        rooms.then("undo() = 3").changes("room(99, 1) = 7");

        sentence("volume: 10 to 10000")
                .changes("room(10, 5) = 0", "room(11, 5) = 0", "room(9999, 5) = 0", "room(10000, 5) = 0")
                .keeps("room(9, 5) = -1", "room(10001, 5) = -1", "room(0, 5) = -1", "room(-10, 5) = -1",
                        "room(" + LEAST + ", 5) = -1", "room(" + MOST + ", 5) = -1")
                .then("room(10, 5)", "room(10000, 5)").keeps("roomOf(0, 0) = 10", "roomOf(1, 0) = 10000");

        sentence("absorption: 0 to 1000")
                .changes("room(50, 0) = 0", "room(50, 1) = 0", "room(50, 999) = 0", "room(50, 1000) = 0")
                .keeps("room(50, -1) = -1", "room(50, 1001) = -1", "room(50, " + LEAST + ") = -1",
                        "room(50, " + MOST + ") = -1")
                .then("room(50, 0)", "room(50, 1000)").keeps("roomOf(0, 1) = 0", "roomOf(1, 1) = 1000");

        sentence("INVALID_ARGUMENT if an argument is out of range; LIMIT_REACHED if there are 8.").times(8, "room(10, 0)")
                .keeps("room(9, 0) = -1", "room(10001, 0) = -1", "room(10, -1) = -1", "room(10, 1001) = -1",
                        "room(10, 0) = -3");
    }

    private void thingsOfARoom() {
        sentence("energy, which is 0 at first").then("room(10, 0)")
                .keeps("roomOf(0, 2) = 0", "roomOf(0, 3) = 0", "roomOf(0, 4) = -4", "roomOf(0, 5) = 0", "roomOf(0, 6) = 0",
                        "roomOf(0, 7) = 0", "roomOf(0, 8) = 0")
                .then("sound(0, 0, 3, 5)", "pass(1)", "room(10, 0)")
                .keeps("roomOf(1, 2) = 0", "roomOf(1, 4) = -4", "roomOf(1, 6) = 0", "roomOf(1, 8) = 0");

        String density = "Its density is (its energy) / (its volume).";
        int[][] densities = {{1, 0}, {9, 0}, {10, 1}, {11, 1}, {19, 1}, {20, 2}, {999999, 99999}, {1000000, 100000}};
        for (int[] each : densities) {
            sentence(density).then("room(10, 0)").hears(0, each[0])
                    .keeps("roomOf(0, 2) = " + each[0], "roomOf(0, 3) = " + each[1]);
        }
        sentence(density).then("room(10000, 0)").hears(0, 9999).keeps("roomOf(0, 3) = 0")
                .then("sound(0, 1, 1, 1)", "pass(1)").keeps("roomOf(0, 3) = 1");

        String level = "Its level is the greatest number n with 2 to the power of n at most its energy; without energy there is none.";
        sentence(level).then("room(10, 0)").keeps("roomOf(0, 4) = -4");
        for (int n = 0; n < 30; n++) {
            int power = 1 << n;
            sentence(level).then("room(10, 0)").hears(0, power).keeps("roomOf(0, 2) = " + power, "roomOf(0, 4) = " + n);
            if (n > 0) {
                sentence(level).then("room(10, 0)").hears(0, power - 1)
                        .keeps("roomOf(0, 2) = " + (power - 1), "roomOf(0, 4) = " + (n - 1));
            }
        }
        sentence(level).then("room(10, 0)").hears(0, 1000000000)
                .keeps("roomOf(0, 4) = 29", "roomOf(0, 3) = 100000000", "roomOf(0, 6) = 1000000000",
                        "count(4) = 1000000000", "count(8) = 1000000000", "sound(0, 80, 1, 1) = -3");
    }

    private void doors() {
        Story doors = sentence("There are at most 12 doors, numbered from 0.").then("room(12, 0)", "room(100, 0)");
        for (int door = 0; door < 12; door++) {
            doors.keeps("count(1) = " + door, "doorOf(" + door + ", 2) = -1").goesOn("door(0, 1, 1, 1, 0) = " + door);
        }
        doors.keeps("count(1) = 12", "doorOf(11, 2) = 1", "doorOf(12, 2) = -1", "door(1, 8, 1, 1, 0) = -3",
                        "door(1, 8, 88, 10, 5) = -3");
        doors.then("undo() = 3").changes("door(1, 8, 1, 1, 0) = 11");

        sentence("NOT_POSSIBLE if the areas of a room would be more than its volume; LIMIT_REACHED if there are 12.")
                .then("room(12, 0)", "room(100, 0)").times(12, "door(0, 1, 1, 1, 0)")
                .keeps("door(1, 8, 88, 1, 0) = -3", "door(1, 8, 89, 1, 0) = -2", "door(0, 8, 1, 1, 0) = -2",
                        "door(1, 0, 1, 1, 0) = -2", "door(1, 8, 0, 1, 0) = -1", "door(1, 8, 1001, 1, 0) = -1",
                        "door(1, 1, 89, 1, 0) = -1", "door(0, 8, 1, 11, 0) = -1", "door(0, 8, 1, 1, 6) = -1");

        sentence("A door leads from one room to another one, or to the outside").times(8, "room(50, 0)")
                .keeps("door(0, 0, 5, 5, 0) = -1", "door(7, 7, 5, 5, 0) = -1", "door(8, 0, 5, 5, 0) = -1",
                        "door(8, 8, 5, 5, 0) = -1", "door(0, 9, 5, 5, 0) = -1", "door(-1, 0, 5, 5, 0) = -1",
                        "door(0, -1, 5, 5, 0) = -1")
                .changes("door(0, 7, 5, 5, 0) = 0", "door(7, 0, 5, 5, 0) = 0", "door(0, 8, 5, 5, 0) = 0",
                        "door(7, 8, 5, 5, 0) = 0");
        sentence("other: number of the room of its side 1, another one; 8: the outside").then("room(50, 0)", "room(50, 0)")
                .keeps("door(0, 2, 5, 5, 0) = -1", "door(0, 7, 5, 5, 0) = -1", "door(2, 8, 5, 5, 0) = -1")
                .then("door(1, 0, 5, 5, 0)", "door(1, 8, 5, 5, 0)")
                .keeps("doorOf(0, 0) = 1", "doorOf(0, 1) = 0", "doorOf(1, 0) = 1", "doorOf(1, 1) = 8");

        Story wide = sentence("an area (1 to 1000)").then("room(1000, 0)");
        wide.changes("door(0, 8, 1, 5, 0) = 0", "door(0, 8, 1000, 5, 0) = 0")
                .keeps("door(0, 8, 0, 5, 0) = -1", "door(0, 8, 1001, 5, 0) = -1");
        wide.then("door(0, 8, 1, 5, 0)").keeps("doorOf(0, 2) = 1").then("door(0, 8, 999, 5, 0)")
                .keeps("doorOf(1, 2) = 999");
        sentence("an area (1 to 1000)").then("room(10000, 0)").changes("door(0, 8, 1000, 5, 0) = 0")
                .keeps("door(0, 8, 1001, 5, 0) = -1");
        sentence("a speed (1 to 10)").then("room(1000, 0)").changes("door(0, 8, 5, 1, 0) = 0", "door(0, 8, 5, 10, 0) = 0")
                .keeps("door(0, 8, 5, 0, 0) = -1", "door(0, 8, 5, 11, 0) = -1")
                .then("door(0, 8, 5, 1, 0)", "door(0, 8, 5, 10, 0)").keeps("doorOf(0, 3) = 1", "doorOf(1, 3) = 10");
        sentence("a delay (0 to 5)").then("room(1000, 0)").changes("door(0, 8, 5, 5, 0) = 0", "door(0, 8, 5, 5, 5) = 0")
                .keeps("door(0, 8, 5, 5, -1) = -1", "door(0, 8, 5, 5, 6) = -1")
                .then("door(0, 8, 5, 5, 0)", "door(0, 8, 5, 5, 5)").keeps("doorOf(0, 4) = 0", "doorOf(1, 4) = 5");
        sentence("an opening (0 to 10; 0 at first) and a target (0 to 10; 0 at first)")
                .then("room(50, 0)", "door(0, 8, 5, 10, 0)")
                .keeps("doorOf(0, 5) = 0", "doorOf(0, 6) = 0", "doorOf(0, 7) = 0", "doorOf(0, 8) = 0", "doorOf(0, 9) = 0",
                        "doorOf(0, 10) = 0", "open(0, 11) = -1", "open(0, -1) = -1", "open(0, 0) = -2")
                .changes("open(0, 1) = 0", "open(0, 10) = 0").then("open(0, 10)")
                .keeps("doorOf(0, 5) = 0", "doorOf(0, 6) = 10").changes("open(0, 0) = 10").then("pass(1)")
                .keeps("doorOf(0, 5) = 10").changes("open(0, 0) = 10", "open(0, 9) = 10").keeps("open(0, 10) = -2");
    }

    private void areas() {
        String sentence = "The areas of all doors of a room are together at most its volume.";
        sentence(sentence).then("room(10, 0)", "room(1000, 0)")
                .changes("door(0, 8, 10, 1, 0) = 0", "door(0, 1, 10, 1, 0) = 0", "door(1, 0, 10, 1, 0) = 0")
                .keeps("door(0, 8, 11, 1, 0) = -2", "door(0, 1, 11, 1, 0) = -2", "door(1, 0, 11, 1, 0) = -2");
        sentence(sentence).then("room(10, 0)", "room(1000, 0)", "door(0, 1, 4, 1, 0)", "door(1, 0, 4, 1, 0)")
                .changes("door(0, 8, 2, 1, 0) = 2", "door(0, 1, 2, 1, 0) = 2", "door(1, 0, 2, 1, 0) = 2",
                        "door(1, 8, 992, 1, 0) = 2")
                .keeps("door(0, 8, 3, 1, 0) = -2", "door(0, 1, 3, 1, 0) = -2", "door(1, 0, 3, 1, 0) = -2",
                        "door(1, 8, 993, 1, 0) = -2");
        // a full room has no place for the least door, and the outside has place for all
        sentence(sentence).then("room(10, 0)", "room(30, 0)", "door(0, 8, 10, 1, 0)")
                .keeps("door(0, 8, 1, 1, 0) = -2", "door(0, 1, 1, 1, 0) = -2", "door(1, 0, 1, 1, 0) = -2")
                .changes("door(1, 8, 30, 1, 0) = 1");
        sentence(sentence).times(8, "room(1000, 0)")
                .then("door(0, 8, 1000, 1, 0)", "door(1, 8, 1000, 1, 0)", "door(2, 8, 1000, 1, 0)")
                .changes("door(7, 8, 1000, 1, 0) = 3").keeps("door(0, 7, 1, 1, 0) = -2", "door(7, 0, 1, 1, 0) = -2");
        // what undo takes back gives its place back
        sentence(sentence).then("room(10, 0)", "door(0, 8, 10, 1, 0)", "undo()").changes("door(0, 8, 10, 1, 0) = 0")
                .keeps("door(0, 8, 11, 1, 0) = -2");
    }

    private void locks() {
        Story moving = sentence("A door can be locked: its target is its opening then")
                .then("room(10, 0)", "door(0, 8, 1, 3, 0)", "open(0, 10)", "pass(1)");
        moving.changes("lock(0, 1) = 3").keeps("lock(0, 0) = -2", "doorOf(0, 6) = 10", "doorOf(0, 7) = 0");
        moving.then("lock(0, 1)").keeps("doorOf(0, 5) = 3", "doorOf(0, 6) = 3", "doorOf(0, 7) = 1").then("pass(5)")
                .keeps("doorOf(0, 5) = 3", "doorOf(0, 6) = 3");
        sentence("and it cannot be opened or closed until it is unlocked")
                .then("room(10, 0)", "door(0, 8, 1, 10, 0)", "open(0, 5)", "pass(1)", "lock(0, 1)")
                .keeps("open(0, 0) = -2", "open(0, 4) = -2", "open(0, 5) = -2", "open(0, 6) = -2", "open(0, 10) = -2",
                        "open(0, 11) = -1", "lock(0, 1) = -2", "lock(0, 2) = -1")
                .then("planDoor(0, 1, 9)", "pass(2)").keeps("doorOf(0, 5) = 5", "doorOf(0, 6) = 5")
                .changes("lock(0, 0) = 5").then("lock(0, 0)")
                .keeps("doorOf(0, 6) = 5", "open(0, 5) = -2", "lock(0, 0) = -2")
                .changes("open(0, 0) = 5", "open(0, 10) = 5", "lock(0, 1) = 5");
        sentence("Returns its opening; INVALID_ARGUMENT if an argument is out of range; NOT_POSSIBLE if it is so already.")
                .then("room(10, 0)", "door(0, 8, 1, 10, 0)")
                .keeps("lock(0, 0) = -2", "lock(0, -1) = -1", "lock(0, 2) = -1", "lock(1, 0) = -1", "lock(-1, 0) = -1")
                .goesOn("lock(0, 1) = 0").keeps("lock(0, 1) = -2", "lock(0, 2) = -1").goesOn("lock(0, 0) = 0")
                .then("open(0, 10)", "pass(1)").goesOn("lock(0, 1) = 10", "lock(0, 0) = 10");
    }

    private void settings() {
        sentence("0 the guard (0 to 1000000; 1000000)")
                .keeps("count(20) = 1000000", "set(0, -1) = -1", "set(0, 1000001) = -1", "set(0, " + LEAST + ") = -1",
                        "set(0, " + MOST + ") = -1")
                .goesOn("set(0, 0) = 1000000").keeps("count(20) = 0")
                .goesOn("set(0, 1000000) = 0", "set(0, 999999) = 1000000", "set(0, 1) = 999999")
                .keeps("count(20) = 1", "count(21) = 10");
        sentence("1 the energy that is quiet (0 to 1000000; 10)")
                .keeps("count(21) = 10", "set(1, -1) = -1", "set(1, 1000001) = -1", "set(1, " + LEAST + ") = -1",
                        "set(1, " + MOST + ") = -1")
                .goesOn("set(1, 0) = 10").keeps("count(21) = 0").goesOn("set(1, 1000000) = 0", "set(1, 999999) = 1000000")
                .keeps("count(21) = 999999", "count(20) = 1000000");
        sentence("what: 0 or 1")
                .keeps("set(-1, 5) = -1", "set(2, 5) = -1", "set(20, 5) = -1", "set(21, 5) = -1", "set(-1, -1) = -1");
        // the same value once more is a change, too
        sentence("Returns what it was").goesOn("set(1, 10) = 10", "set(1, 10) = 10", "set(0, 1000000) = 1000000");
    }

    private void refusals() {
        String[] house = {
            "room(10, 0)", "room(20, 0)", "door(0, 1, 5, 10, 0)", "door(0, 8, 1, 2, 0)", "door(1, 8, 1, 1, 0)",
            "sound(0, 0, 1, 109)", "sound(1, 0, 1, 139)", "pass(1)"
        };
        String guard = "the densities of its sides (of the outside: 0) differ by more than the guard";
        // 10 and 6
        sentence(guard).then(house).then("set(0, 4)").keeps("refusal(0, 1) = 0", "refusal(0, 10) = 0")
                .changes("open(0, 10) = 0");
        sentence(guard).then(house).then("set(0, 3)").keeps("refusal(0, 1) = 3", "refusal(0, 10) = 3", "open(0, 10) = -2");
        sentence(guard).then(house).then("set(0, 10)").keeps("refusal(1, 1) = 0").changes("open(1, 1) = 0");
        sentence(guard).then(house).then("set(0, 9)").keeps("refusal(1, 1) = 3", "open(1, 1) = -2");
        sentence(guard).then(house).then("set(0, 6)").keeps("refusal(2, 10) = 0");
        sentence(guard).then(house).then("set(0, 5)").keeps("refusal(2, 10) = 3");
        sentence(guard)
                .then("room(10, 0)", "room(10, 0)", "door(0, 1, 1, 1, 0)", "set(0, 0)", "sound(0, 0, 1, 19)",
                        "sound(1, 0, 1, 10)", "pass(1)")
                .keeps("refusal(0, 1) = 0").then("sound(0, 1, 1, 1)", "pass(1)").keeps("refusal(0, 1) = 3");
        sentence(guard)
                .then("room(10, 0)", "room(10, 0)", "door(0, 1, 1, 1, 0)", "set(0, 2)", "sound(1, 0, 1, 29)", "pass(1)")
                .keeps("refusal(0, 1) = 0").then("sound(1, 1, 1, 1)", "pass(1)").keeps("refusal(0, 1) = 3");
        // the first value of the guard and the greatest densities
        sentence(guard).then("room(10, 0)", "door(0, 8, 1, 1, 0)").hears(0, 10000009)
                .keeps("roomOf(0, 3) = 1000000", "refusal(0, 1) = 0").hears(0, 1)
                .keeps("roomOf(0, 3) = 1000001", "refusal(0, 1) = 3", "open(0, 1) = -2");

        Story halfOpen = sentence("3 it is greater than its opening").then(house)
                .then("open(1, 6)", "pass(2)", "open(1, 9)", "set(0, 0)");
        halfOpen.keeps("doorOf(1, 5) = 4", "refusal(1, 4) = 0", "refusal(1, 5) = 3", "refusal(1, 3) = 0",
                        "refusal(1, 0) = 0", "refusal(1, 10) = 3", "refusal(1, 9) = 2", "open(1, 5) = -2",
                        "open(1, 9) = -2")
                .changes("open(1, 4) = 9", "open(1, 0) = 9");
        // a target that is refused for the first reason, for the second one
        Story order = sentence("A target for a door is refused for the first of these reasons: 1 the door is locked; 2 it is its target already");
        order.then(house).then("set(0, 0)").keeps("refusal(0, 0) = 2", "refusal(0, 1) = 3")
                .then("open(1, 0)", "planDoor(0, 1, 5)", "lock(2, 1)")
                .keeps("refusal(2, 0) = 1", "refusal(2, 1) = 1", "refusal(2, 10) = 1", "refusal(2, 11) = -1",
                        "refusal(2, -1) = -1")
                .then("set(0, 1000000)", "open(0, 5)", "set(0, 0)")
                .keeps("doorOf(0, 5) = 0", "refusal(0, 5) = 2", "refusal(0, 4) = 3", "refusal(0, 0) = 0")
                .then("lock(0, 1)").keeps("refusal(0, 5) = 1", "refusal(0, 0) = 1");
        sentence("The targets of the plan are not refused for the reasons 2 and 3.").then(house).then("set(0, 0)")
                .keeps("refusal(0, 0) = 2", "refusal(0, 7) = 3").goesOn("planDoor(0, 1, 0) = 1", "planDoor(0, 2, 7) = 2")
                .then("pass(1)").keeps("doorOf(0, 5) = 0", "count(2) = 1").then("pass(1)")
                .keeps("doorOf(0, 5) = 7", "doorOf(0, 6) = 7", "count(2) = 0");
        sentence("Returns the target it had; INVALID_ARGUMENT if an argument is out of range; NOT_POSSIBLE if refusal() is not 0.")
                .then("room(10, 0)", "door(0, 8, 1, 1, 0)").keeps("open(0, 0) = -2")
                .goesOn("open(0, 10) = 0", "open(0, 9) = 10", "open(0, 0) = 9").keeps("open(0, 0) = -2").then("lock(0, 1)")
                .keeps("open(0, 11) = -1", "open(1, 5) = -1", "open(0, 5) = -2");
    }

    private void answersOfRooms() {
        Story heard = sentence("8: sounds that are heard in it in the present step")
                .then("room(10, 0)", "room(10, 0)", "sound(0, 2, 3, 1)", "sound(0, 4, 1, 1)", "sound(1, 3, 1, 1)",
                        "sound(0, 0, 1, 1)");
        heard.keeps("roomOf(0, 8) = 1", "roomOf(1, 8) = 0").then("pass(1)").keeps("roomOf(0, 8) = 0").then("pass(1)")
                .keeps("roomOf(0, 8) = 1").then("pass(1)").keeps("roomOf(0, 8) = 1", "roomOf(1, 8) = 1").then("pass(1)")
                .keeps("roomOf(0, 8) = 2", "roomOf(1, 8) = 0").then("cancel(0)").keeps("roomOf(0, 8) = 1").then("pass(1)")
                .keeps("roomOf(0, 8) = 0");
        sentence("8: sounds that are heard in it in the present step").then("room(10, 0)").times(16, "sound(0, 0, 20, 1)")
                .keeps("roomOf(0, 8) = 16").then("pass(19)").keeps("roomOf(0, 8) = 16").then("pass(1)")
                .keeps("roomOf(0, 8) = 0");
        sentence("7: doors that it has").then("room(100, 0)", "room(100, 0)", "room(100, 0)").keeps("roomOf(0, 7) = 0")
                .times(10, "door(0, 1, 1, 1, 0)").then("door(1, 8, 1, 1, 0)", "door(2, 0, 1, 1, 0)")
                .keeps("roomOf(0, 7) = 11", "roomOf(1, 7) = 11", "roomOf(2, 7) = 1");
        sentence("5: what it has absorbed; 6: what sounds have given to it").then("room(10, 100)", "room(10, 0)", "sound(0, 0, 3, 95)")
                .keeps("roomOf(0, 5) = 0", "roomOf(0, 6) = 0")
                // 95, 85 + 95, 162 + 95 and 231 without a sound
                .then("pass(1)").keeps("roomOf(0, 5) = 10", "roomOf(0, 6) = 95", "count(6) = 10")
                .then("pass(1)").keeps("roomOf(0, 5) = 28", "roomOf(0, 6) = 190", "count(6) = 28")
                .then("pass(1)").keeps("roomOf(0, 5) = 54", "roomOf(0, 6) = 285", "count(6) = 54", "roomOf(0, 2) = 231")
                .then("pass(1)").keeps("roomOf(0, 5) = 78", "roomOf(0, 6) = 285", "roomOf(1, 5) = 0", "count(6) = 78", "count(8) = 285");
        sentence("NOT_FOUND for 4 if there is none.").then("room(10, 1000)", "sound(0, 0, 2, 5)", "pass(1)")
                .keeps("roomOf(0, 2) = 0", "roomOf(0, 4) = -4", "roomOf(0, 5) = 5", "roomOf(0, 6) = 5",
                        "roomOf(0, -1) = -1", "roomOf(0, 9) = -1", "roomOf(1, 4) = -1");
    }

    private void answersOfDoors() {
        String would = "energy that would go through from the side 0, from the side 1, if rooms had what they have now";
        sentence(would)
                .then("room(10, 0)", "room(30, 0)", "door(0, 1, 3, 1, 0)", "door(1, 8, 7, 1, 0)", "sound(0, 0, 1, 99)",
                        "sound(1, 0, 1, 99)", "pass(1)")
                .keeps("doorOf(0, 11) = 0", "doorOf(0, 12) = 0", "doorOf(1, 11) = 0", "doorOf(1, 12) = 0")
                // 99 * 3 / 100 = 2.97 and 99 * 3 / 300 = 0.99; 99 * 7 / 300 = 2.31
                .then("open(0, 10)", "open(1, 1)", "pass(1)")
                .keeps("doorOf(0, 9) = 2", "doorOf(0, 10) = 0", "doorOf(1, 9) = 2", "doorOf(1, 10) = 0",
                        // of 97 and 99 then 97 * 3 / 100 = 2.91, 99 * 3 / 300 = 0.99, 99 * 7 / 300 = 2.31
                        "roomOf(0, 2) = 97", "roomOf(1, 2) = 99", "doorOf(0, 11) = 2", "doorOf(0, 12) = 0",
                        "doorOf(1, 11) = 2", "doorOf(1, 12) = 0")
                // 97 * 6 / 100 = 5.82, 99 * 6 / 300 = 1.98
                .then("pass(1)", "sound(0, 3, 1, 2)").keeps("doorOf(0, 5) = 2", "doorOf(0, 9) = 7", "doorOf(0, 10) = 1");
        sentence("8: energy that has gone through it and not arrived")
                .then("room(10, 0)", "room(10, 0)", "door(0, 1, 10, 10, 5)", "open(0, 10)", "sound(0, 0, 1, 7)",
                        "sound(1, 0, 1, 4)", "sound(1, 3, 1, 50)")
                .keeps("doorOf(0, 8) = 0").then("pass(1)").keeps("doorOf(0, 8) = 11", "count(5) = 11").then("pass(3)")
                .keeps("doorOf(0, 8) = 61").then("pass(1)")
                .keeps("doorOf(0, 8) = 61", "roomOf(0, 2) = 0", "roomOf(1, 2) = 0")
                // 4 and 7 arrive at the end of the step 5
                .then("pass(1)").keeps("doorOf(0, 8) = 50", "roomOf(0, 2) = 4", "roomOf(1, 2) = 7");
        sentence("8: the outside").then("room(10, 0)", "door(0, 8, 1, 1, 0)")
                .keeps("doorOf(0, 0) = 0", "doorOf(0, 1) = 8", "doorOf(0, 12) = 0", "doorOf(0, 13) = -1",
                        "doorOf(0, -1) = -1", "doorOf(1, 0) = -1");
        sentence("7: 1 if it is locked, otherwise 0").then("room(10, 0)", "door(0, 8, 1, 1, 0)").keeps("doorOf(0, 7) = 0")
                .then("lock(0, 1)").keeps("doorOf(0, 7) = 1").then("lock(0, 0)").keeps("doorOf(0, 7) = 0");
    }

    private void energyThatWrapsAround() {
        String sentence = "energy that has gone through from the side 0, from the side 1 (kept as an int, which wraps around)";
        for (int more = 0; more <= 2; more++) {
            int side = 9;
            for (String ends : new String[] {"0, 1", "1, 0"}) {
                // what is heard in room 0 goes to and fro, as a whole: 3 * 715827882 + 1 = 2147483647
                Story story = sentence(sentence).then("room(10, 0)", "room(10, 0)", "door(" + ends + ", 10, 10, 0)")
                        .hears(0, 715827882);
                int present = story.answerTo("count(3)");
                story.then("planDoor(0, " + present + ", 10)", "pass(5)").keeps("doorOf(0, " + side + ") = 2147483646");
                if (more > 0) {
                    story.then("sound(0, " + (present + 5) + ", 1, " + more + ")");
                }
                story.then("pass(1)").keeps("doorOf(0, " + side + ") = " + (2147483646 + more), "roomOf(0, 2) = 715827882");
                side = 10;
            }
        }
        sentence(sentence).then("room(10, 0)", "room(10, 0)", "door(0, 1, 10, 10, 0)").hears(0, 1000000000)
                .then("planDoor(0, 80, 10)", "pass(9)")
                .keeps("doorOf(0, 9) = 705032704", "doorOf(0, 10) = -294967296", "roomOf(1, 2) = 1000000000",
                        "doorOf(0, 12) = 1000000000");
    }

    private void counts() {
        Story empty = sentence("INVALID_ARGUMENT if what is out of range.");
        empty.keeps("count(-1) = -1", "count(13) = -1", "count(19) = -1", "count(22) = -1", "count(" + LEAST + ") = -1",
                        "count(" + MOST + ") = -1", "count(0) = 0", "count(12) = 0", "count(20) = 1000000",
                        "count(21) = 10");
        sentence("9: energy of all sounds that were ever told").then("room(10, 0)")
                .goesOn("sound(0, 5, 20, 1000000) = 1", "sound(0, 5, 1, 1) = 2")
                .keeps("count(9) = 20000001", "count(8) = 0").goesOn("cancel(0) = 1", "cancel(0) = 0")
                .keeps("count(9) = 20000001").then("pass(10)").keeps("count(9) = 20000001", "count(8) = 0", "count(4) = 0");
        sentence("8: energy that sounds have given").then("room(10, 1000)", "sound(0, 0, 2, 30)", "pass(1)")
                .keeps("count(8) = 30", "count(6) = 30", "count(4) = 0").then("cancel(0)", "pass(1)")
                .keeps("count(8) = 30", "count(9) = 60");
        sentence("3: the present step").keeps("count(3) = 0").then("pass(1)").keeps("count(3) = 1").then("pass(50)")
                .keeps("count(3) = 51");
    }
}
