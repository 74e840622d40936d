/** The sentences of the document about what a step does, at their edges, each with a test of its own. */
public final class StepsEdgesTest {
    private final Check check = new Check("StepsEdgesTest");

    public static void main(String[] args) {
        StepsEdgesTest test = new StepsEdgesTest();
        test.givingTargets();
        test.movingDoors();
        test.endingSounds();
        test.absorbing();
        test.absorbingMuch();
        test.goingThroughDoors();
        test.goingAtTheSameTime();
        test.comingFromTheOutside();
        test.arriving();
        test.arrivingInAStep();
        test.openedAmidASound();
        test.openedAmidNone();
        test.check.end();
    }

    private void sentence(String words) {
        check.promise('"' + words + '"');
    }

    private Run house(String... calls) {
        return new Run(check).after(calls);
    }

    private void givingTargets() {
        sentence("of several for one door the latest in the plan remains");
        house("room(10, 0)", "door(0, 8, 1, 10, 0)", "planDoor(0, 0, 7)", "planDoor(0, 0, 2)")
                .calls("pass(1) = 1", "doorOf(0, 6) = 2", "doorOf(0, 5) = 2", "count(2) = 0");
        house("room(10, 0)", "door(0, 8, 1, 10, 0)", "planDoor(0, 1, 3)", "planDoor(0, 0, 2)", "planDoor(0, 0, 7)",
                        "planDoor(0, 2, 0)")
                .calls("pass(1) = 1", "doorOf(0, 6) = 7", "count(2) = 2", "pass(1) = 2", "doorOf(0, 6) = 3", "pass(1) = 3",
                        "doorOf(0, 6) = 0");
        // sixteen for one door and of two doors each its own
        Run full = house("room(10, 0)", "door(0, 8, 1, 10, 0)", "door(0, 8, 1, 10, 0)");
        for (int i = 0; i < 16; i++) {
            full.after("planDoor(" + i % 2 + ", 4, " + (i * 7 % 11) + ")");
        }
        full.calls("pass(4) = 4", "count(2) = 16", "doorOf(0, 6) = 0", "pass(1) = 5", "count(2) = 0",
                        "doorOf(0, 6) = 10", "doorOf(1, 6) = 6");
        // what open gave is replaced
        house("room(10, 0)", "door(0, 8, 1, 10, 0)", "planDoor(0, 0, 7)", "open(0, 2)")
                .calls("doorOf(0, 6) = 2", "pass(1) = 1", "doorOf(0, 6) = 7");

        sentence("to a locked door none is given");
        house("room(10, 0)", "door(0, 8, 1, 10, 0)", "open(0, 4)", "pass(1)", "planDoor(0, 1, 9)", "planDoor(0, 2, 8)",
                        "lock(0, 1)")
                .calls("pass(1) = 2", "doorOf(0, 6) = 4", "doorOf(0, 5) = 4", "count(2) = 1", "lock(0, 0) = 4",
                        "pass(1) = 3", "doorOf(0, 6) = 8");
        sentence("and all these entries leave the plan");
        house("room(10, 0)", "door(0, 8, 1, 10, 0)", "lock(0, 1)", "planDoor(0, 1, 9)", "sound(0, 1, 2, 5)")
                .calls("pass(1) = 1", "count(2) = 2", "pass(1) = 2", "count(2) = 1", "plan(0, 1) = 0", "pass(1) = 3",
                        "count(2) = 0", "doorOf(0, 6) = 0");
    }

    private void movingDoors() {
        sentence("the opening of each door comes nearer to its target by its speed, but not beyond it");
        for (int speed = 1; speed <= 10; speed++) {
            for (int from = 0; from <= 10; from++) {
                for (int to = 0; to <= 10; to++) {
                    int moved = from < to ? Math.min(to, from + speed) : Math.max(to, from - speed);
                    house("room(10, 0)", "door(0, 8, 1, " + speed + ", 0)", "open(0, " + from + ")", "pass(10)",
                                    "open(0, " + to + ")")
                            .calls("doorOf(0, 5) = " + from, "doorOf(0, 6) = " + to, "pass(1) = 11",
                                    "doorOf(0, 5) = " + moved, "doorOf(0, 6) = " + to);
                }
            }
        }
        // the opening of this step is the one by which energy goes through in it
        house("room(10, 0)", "door(0, 8, 10, 3, 0)", "open(0, 10)", "sound(0, 0, 1, 100)")
                .calls("pass(1) = 1", "doorOf(0, 9) = 30");
    }

    private void endingSounds() {
        sentence("one whose last step this is leaves the plan");
        for (int steps = 1; steps <= 20; steps++) {
            house("room(10, 0)", "sound(0, 3, " + steps + ", 5)", "pass(" + (2 + steps) + ")")
                    .calls("count(2) = 1", "roomOf(0, 8) = 1", "pass(1) = " + (3 + steps), "count(2) = 0",
                            "roomOf(0, 8) = 0", "roomOf(0, 6) = " + 5 * steps, "pass(1) = " + (4 + steps),
                            "roomOf(0, 2) = " + 5 * steps);
        }
        // several at once, and those ahead of and behind them stay
        house("room(10, 0)", "sound(0, 0, 9, 1)", "sound(0, 1, 2, 10)", "sound(0, 2, 1, 100)", "sound(0, 2, 2, 1000)",
                        "pass(3)")
                .calls("count(2) = 2", "plan(0, 4) = 1", "plan(1, 4) = 1000", "roomOf(0, 2) = 1123");
        // beyond the step 5000 it has not ended
        Run late = house("room(10, 0)").times(100, "pass(50)");
        late.calls("sound(0, 5000, 1, 9) = 1", "pass(1) = -3", "count(2) = 1", "roomOf(0, 2) = 0", "quiet() = 1");
    }

    private void absorbing() {
        sentence("Third each room absorbs (its energy) * (its absorption) / 1000, rounded up.");
        int[] absorptions = {0, 1, 2, 333, 499, 500, 501, 998, 999, 1000};
        int[] energies = {1, 2, 3, 499, 500, 501, 998, 999, 1000, 1001, 1002, 1999, 2000, 2001, 999999, 1000000};
        for (int absorption : absorptions) {
            for (int energy : energies) {
                long exact = (long) energy * absorption;
                long share = exact / 1000 + (exact % 1000 > 0 ? 1 : 0);
                house("room(10, " + absorption + ")", "sound(0, 0, 1, " + energy + ")", "pass(1)")
                        .calls("roomOf(0, 5) = " + share, "roomOf(0, 2) = " + (energy - share), "count(6) = " + share,
                                "roomOf(0, 6) = " + energy);
            }
        }
        // without energy nothing, and the last one of 1 at any absorption
        house("room(10, 1000)", "pass(5)").calls("roomOf(0, 5) = 0", "count(6) = 0");
        house("room(10, 1)", "sound(0, 0, 1, 1)", "pass(1)").calls("roomOf(0, 2) = 0", "roomOf(0, 5) = 1");
    }

    /** A room that absorbs nothing collects it, and gives it all to room 1, which absorbs it in the step behind that. */
    private void absorbingMuch() {
        sentence("Third each room absorbs (its energy) * (its absorption) / 1000, rounded up.");
        int[] absorptions = {1, 500, 999, 1000};
        for (int absorption : absorptions) {
            Run run = house("room(10, 0)", "room(10, " + absorption + ")", "door(0, 1, 10, 10, 0)", "planDoor(0, 80, 10)");
            for (int step = 0; step < 60; step += 20) {
                run.times(15, "sound(0, " + step + ", 20, 1000000)").after("pass(20)");
            }
            run.times(5, "sound(0, 60, 20, 1000000)").after("pass(20)")
                    .calls("roomOf(0, 2) = 1000000000", "pass(1) = 81", "roomOf(1, 2) = 1000000000", "roomOf(1, 5) = 0",
                            "pass(1) = 82", "roomOf(1, 5) = " + 1000000 * absorption, "count(6) = " + 1000000 * absorption,
                            "roomOf(0, 2) = " + (1000000000 - 1000000 * absorption),
                            "count(4) = " + (1000000000 - 1000000 * absorption));
        }
    }

    private void goingThroughDoors() {
        sentence("(its energy) * (area) * (opening) / (10 * (its volume)) goes through the door");
        int[][] edges = {
            // volume, area, opening, energy, what goes
            {10, 1, 1, 99, 0}, {10, 1, 1, 100, 1}, {10, 1, 1, 199, 1}, {10, 1, 1, 200, 2}, {10, 10, 10, 1, 1},
            {10, 10, 9, 1, 0}, {10, 10, 9, 2, 1}, {10, 9, 10, 1, 0}, {10, 9, 10, 10, 9}, {10000, 1000, 10, 9, 0},
            {10000, 1000, 10, 10, 1}, {10000, 1, 1, 99999, 0}, {10000, 1, 1, 100000, 1}, {1000, 1000, 10, 1000000, 1000000},
            {1000, 999, 10, 1000, 999}, {1000, 999, 10, 1001, 999}, {1000, 1000, 1, 9, 0}, {1000, 1000, 1, 10, 1},
            {1000, 1000, 0, 1000000, 0}
        };
        for (int[] edge : edges) {
            house("room(" + edge[0] + ", 0)", "door(0, 8, " + edge[1] + ", 10, 0)", "open(0, " + edge[2] + ")",
                            "sound(0, 0, 1, " + edge[3] + ")", "pass(1)")
                    .calls("doorOf(0, 9) = " + edge[4], "count(7) = " + edge[4], "roomOf(0, 2) = " + (edge[3] - edge[4]));
        }
        // the greatest product: 1000000000 * 1000 * 10
        Run much = house("room(1000, 0)", "room(1000, 0)", "door(0, 1, 1000, 10, 0)", "planDoor(0, 80, 10)");
        for (int step = 0; step < 60; step += 20) {
            much.times(15, "sound(0, " + step + ", 20, 1000000)").after("pass(20)");
        }
        much.times(5, "sound(0, 60, 20, 1000000)").after("pass(20)")
                .calls("doorOf(0, 11) = 0", "pass(1) = 81", "doorOf(0, 9) = 1000000000", "doorOf(0, 12) = 1000000000",
                        "roomOf(1, 2) = 1000000000", "roomOf(0, 2) = 0");
    }

    private void goingAtTheSameTime() {
        sentence("all by the energies that the rooms have then, before anything goes");
        // ten doors take a tenth each: nothing is left
        Run ten = house("room(10, 0)");
        for (int door = 0; door < 10; door++) {
            ten.after("door(0, 8, 1, 10, 0)", "open(" + door + ", 10)");
        }
        ten.after("sound(0, 0, 1, 1000)", "pass(1)")
                .calls("roomOf(0, 2) = 0", "count(7) = 1000", "doorOf(0, 9) = 100", "doorOf(9, 9) = 100");
        // to and fro through one door, and from room to room: none goes through two doors in a step
        house("room(10, 0)", "room(10, 0)", "door(0, 1, 10, 10, 0)", "open(0, 10)", "sound(0, 0, 1, 70)",
                        "sound(1, 0, 1, 30)", "pass(1)")
                .calls("roomOf(0, 2) = 30", "roomOf(1, 2) = 70", "doorOf(0, 9) = 70", "doorOf(0, 10) = 30");
        house("room(10, 0)", "room(20, 0)", "room(20, 0)", "door(0, 1, 10, 10, 0)", "door(1, 2, 10, 10, 0)",
                        "door(2, 8, 10, 10, 0)", "open(0, 10)", "open(1, 10)", "open(2, 10)", "sound(0, 0, 1, 64)")
                .calls("pass(1) = 1", "roomOf(1, 2) = 64", "roomOf(2, 2) = 0", "pass(1) = 2", "roomOf(0, 2) = 32",
                        "roomOf(1, 2) = 0", "roomOf(2, 2) = 32", "count(7) = 0", "pass(1) = 3", "count(7) = 16",
                        "roomOf(1, 2) = 48");
    }

    private void comingFromTheOutside() {
        sentence("from the outside nothing comes");
        house("room(10, 0)", "door(0, 8, 10, 10, 1)", "open(0, 10)", "sound(0, 0, 1, 70)", "pass(9)")
                .calls("roomOf(0, 2) = 0", "doorOf(0, 10) = 0", "doorOf(0, 12) = 0", "count(7) = 70", "count(5) = 0",
                        "count(4) = 0");
        sentence("or escapes, if this is the outside");
        for (int delay = 0; delay <= 5; delay++) {
            Run run = house("room(10, 0)", "door(0, 8, 10, 10, " + delay + ")", "open(0, 10)", "sound(0, 0, 1, 70)");
            for (int step = 1; step <= delay; step++) {
                run.calls("pass(1) = " + step, "count(7) = 0", "count(5) = 70", "doorOf(0, 8) = 70");
            }
            run.calls("pass(1) = " + (delay + 1), "count(7) = 70", "count(5) = 0", "doorOf(0, 8) = 0",
                            "pass(1) = " + (delay + 2), "count(7) = 70");
        }
    }

    private void arriving() {
        sentence("arrives at the end of the step that comes as many steps later as the delay of the door tells (0: of the same step)");
        for (int delay = 0; delay <= 5; delay++) {
            for (int side = 0; side < 2; side++) {
                String ends = side == 0 ? "0, 1" : "1, 0";
                Run run = house("room(10, 0)", "room(10, 0)", "door(" + ends + ", 10, 10, " + delay + ")",
                                "planDoor(0, 2, 10)", "planDoor(0, 3, 0)", "sound(0, 2, 1, 70)", "pass(2)");
                for (int step = 3; step < 3 + delay; step++) {
                    run.calls("pass(1) = " + step, "roomOf(1, 2) = 0", "doorOf(0, 8) = 70", "count(5) = 70",
                                    "roomOf(0, 2) = 0");
                }
                run.calls("pass(1) = " + (3 + delay), "roomOf(1, 2) = 70", "doorOf(0, 8) = 0", "count(5) = 0",
                                "doorOf(0, " + (9 + side) + ") = 70", "doorOf(0, " + (10 - side) + ") = 0",
                                "pass(9) = " + (12 + delay), "roomOf(1, 2) = 70");
            }
        }
        // in each step some goes, for longer than the longest delay, and each arrives in its own step
        Run each = house("room(10, 0)", "room(10, 0)", "door(0, 1, 10, 10, 5)", "planDoor(0, 0, 10)", "planDoor(0, 9, 0)");
        int[] sounds = {1, 20, 300, 4000, 50000, 600000, 7, 80, 900};
        for (int step = 0; step < sounds.length; step++) {
            each.after("sound(0, " + step + ", 1, " + sounds[step] + ")");
        }
        each.calls("pass(5) = 5", "count(5) = 54321", "roomOf(1, 2) = 0", "pass(1) = 6", "roomOf(1, 2) = 1",
                        "count(5) = 654320", "pass(1) = 7",
                        // the 1 that has arrived goes back as the 7 goes
                        "roomOf(1, 2) = 20", "count(5) = 654308");
    }

    private void arrivingInAStep() {
        sentence("arrives at the end of the step");
        // it is neither absorbed in this step, nor does it go on
        house("room(10, 0)", "room(10, 1000)", "door(0, 1, 10, 10, 0)", "planDoor(0, 0, 10)", "sound(0, 0, 1, 70)")
                .calls("pass(1) = 1", "roomOf(1, 2) = 70", "roomOf(1, 5) = 0", "pass(1) = 2", "roomOf(1, 2) = 0",
                        "roomOf(1, 5) = 70");
        // what is on its way arrives though the door is closed and locked meanwhile
        house("room(10, 0)", "room(10, 0)", "door(0, 1, 10, 10, 3)", "open(0, 10)", "sound(0, 0, 1, 70)", "pass(1)",
                        "open(0, 0)", "pass(1)", "lock(0, 1)")
                .calls("doorOf(0, 5) = 0", "doorOf(0, 8) = 70", "pass(1) = 3", "roomOf(1, 2) = 0", "pass(1) = 4",
                        "roomOf(1, 2) = 70");
    }

    private void openedAmidASound() {
        sentence("each such step of each such door counts");
        // speed 3: 3, 6, 9, 10 and then no more
        house("room(10, 0)", "door(0, 8, 1, 3, 0)", "open(0, 10)", "sound(0, 0, 20, 5)")
                .calls("pass(1) = 1", "count(10) = 1", "pass(1) = 2", "count(10) = 2", "pass(1) = 3", "count(10) = 3",
                        "pass(1) = 4", "count(10) = 4", "pass(1) = 5", "count(10) = 4");
        // two sounds in a step, or one on either side of it, are one step of a door; two doors are two
        house("room(10, 0)", "room(10, 0)", "door(0, 1, 1, 10, 0)", "door(1, 8, 1, 10, 0)", "open(0, 5)", "open(1, 1)",
                        "sound(0, 0, 1, 5)", "sound(0, 0, 1, 6)", "sound(1, 0, 1, 7)", "pass(1)")
                .calls("count(10) = 2");
        Run twelve = house("room(12, 0)", "sound(0, 0, 1, 9)");
        for (int door = 0; door < 12; door++) {
            twelve.after("door(0, 8, 1, 1, 0)", "open(" + door + ", 2)");
        }
        twelve.calls("pass(1) = 1", "count(10) = 12", "pass(1) = 2", "count(10) = 12");

        sentence("in a step in which a sound is heard in one of its rooms");
        // in the room of the side 0, of the side 1; by a target of the plan
        house("room(10, 0)", "room(10, 0)", "door(0, 1, 1, 1, 0)", "open(0, 9)", "sound(0, 1, 1, 5)")
                .calls("pass(1) = 1", "count(10) = 0", "pass(1) = 2", "count(10) = 1", "pass(1) = 3", "count(10) = 1");
        house("room(10, 0)", "room(10, 0)", "door(1, 0, 1, 1, 0)", "planDoor(0, 0, 9)", "sound(0, 1, 2, 5)")
                .calls("pass(1) = 1", "count(10) = 0", "pass(1) = 2", "count(10) = 1", "pass(1) = 3", "count(10) = 2",
                        "pass(1) = 4", "count(10) = 2");
    }

    private void openedAmidNone() {
        sentence("A door is opened amid a sound if its opening becomes greater");
        // closing, standing, locked
        house("room(10, 0)", "door(0, 8, 1, 10, 0)", "open(0, 10)", "pass(1)", "sound(0, 1, 5, 5)")
                .calls("pass(1) = 2", "count(10) = 0", "open(0, 3) = 10", "pass(1) = 3", "count(10) = 0", "lock(0, 1) = 3",
                        "planDoor(0, 3, 10) = 2", "pass(1) = 4", "count(10) = 0", "lock(0, 0) = 3", "open(0, 4) = 3",
                        "pass(1) = 5", "count(10) = 1");
        // a sound that is cancelled, one in another room, one that has ended, one that is to come, energy without a sound
        house("room(10, 0)", "room(10, 0)", "door(0, 8, 1, 1, 0)", "open(0, 10)", "sound(0, 0, 9, 5)", "cancel(0)",
                        "sound(1, 0, 9, 5)")
                .calls("pass(5) = 5", "count(10) = 0");
        house("room(10, 0)", "door(0, 8, 1, 1, 0)", "sound(0, 0, 2, 5)", "sound(0, 4, 1, 5)", "pass(2)", "open(0, 10)")
                .calls("pass(2) = 4", "count(10) = 0", "roomOf(0, 8) = 1", "pass(1) = 5", "count(10) = 1");
    }
}
