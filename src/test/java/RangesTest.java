import java.util.ArrayList;
import java.util.LinkedHashSet;
import java.util.List;
import java.util.Set;

/**
 * "INVALID_ARGUMENT if an argument is out of range": for each argument of each call the last values that are
 * taken and the first that are refused, on either side, and those that a narrower number would take for others.
 */
public final class RangesTest {
    private static final int[] FAR_OUT = {Integer.MIN_VALUE, Integer.MIN_VALUE + 1, Integer.MAX_VALUE - 1, Integer.MAX_VALUE};

    private final Check check = new Check("RangesTest");

    public static void main(String[] args) {
        RangesTest test = new RangesTest();
        test.roomsAndDoors();
        test.soundsPlansAndSteps();
        test.foretold();
        test.texts();
        test.noRoomAndNoDoor();
        test.check.end();
    }

    /** Three rooms, three doors, five entries of the plan, three steps gone by, energy in rooms and on its way, a text. */
    private Story busyHouse() {
        return new Story(check).then("room(100, 10) = 0", "room(50, 0) = 1", "room(1000, 5) = 2", "door(0, 1, 20, 3, 2) = 0",
                "door(1, 8, 7, 4, 1) = 1", "door(2, 0, 30, 10, 5) = 2", "open(0, 9) = 0", "open(1, 5) = 0", "lock(2, 1) = 0",
                "sound(0, 0, 4, 1000) = 1", "sound(1, 2, 5, 500) = 2", "sound(2, 0, 1, 77777) = 3", "planDoor(1, 6, 8) = 4",
                "sound(0, 9, 1, 3) = 5", "planDoor(0, 4, 0) = 6", "set(0, 500) = 1000000", "set(1, 60) = 10",
                "pass(3) = 3").text("s0@9*2=7;d1@").then("set(1, 61) = 60");
    }

    /** Each of the arguments by itself out of its range, the others being right; then each at its ends. */
    private void ranges(String name, int[] right, int[]... ranges) {
        check.promise("ranges of " + name);
        Story story = busyHouse();
        for (int i = 0; i < right.length; i++) {
            for (int value : refusedBeside(ranges[i], right[i])) {
                story.keeps(callWith(name, right, i, value) + " = -1");
            }
        }
        for (int i = 0; i < right.length; i++) {
            for (int value : new int[] {ranges[i][0], ranges[i][1]}) {
                String call = callWith(name, right, i, value);
                check.due(call + " is refused", story.answerTo(call) == RoomTails.INVALID_ARGUMENT ? 1 : 0, 0);
            }
        }
    }

    private static Set<Integer> refusedBeside(int[] range, int right) {
        Set<Integer> values = new LinkedHashSet<>();
        for (int value : FAR_OUT) {
            values.add(value);
        }
        values.add(-1);
        values.add(range[0] - 1);
        values.add(range[1] + 1);
        for (int bits = 8; bits < 32; bits += 8) {
            values.add(right + (1 << bits));
            values.add(right - (1 << bits));
        }
        values.removeIf(value -> value >= range[0] && value <= range[1]);
        return values;
    }

    private static String callWith(String name, int[] right, int place, int value) {
        List<String> arguments = new ArrayList<>();
        for (int i = 0; i < right.length; i++) {
            arguments.add(String.valueOf(i == place ? value : right[i]));
        }
        return name + "(" + String.join(", ", arguments) + ")";
    }

    private static int[] of(int... numbers) {
        return numbers;
    }

    private void roomsAndDoors() {
        ranges("room", of(40, 4), of(10, 10000), of(0, 1000));
        ranges("door", of(0, 2, 5, 5, 3), of(0, 1), of(1, 2), of(1, 1000), of(1, 10), of(0, 5));
        ranges("open", of(0, 4), of(0, 2), of(0, 10));
        ranges("refusal", of(0, 4), of(0, 2), of(0, 10));
        ranges("lock", of(1, 1), of(0, 2), of(0, 1));
        ranges("set", of(0, 7), of(0, 1), of(0, 1000000));
        ranges("roomOf", of(1, 2), of(0, 2), of(0, 8));
        ranges("doorOf", of(1, 5), of(0, 2), of(0, 12));
        ranges("count", of(3), of(0, 12));
        ranges("count", of(20), of(20, 21));
    }

    private void soundsPlansAndSteps() {
        ranges("sound", of(1, 7, 2, 70), of(0, 2), of(0, 5000), of(1, 20), of(1, 1000000));
        ranges("planDoor", of(1, 7, 2), of(0, 2), of(0, 5000), of(0, 10));
        ranges("cancel", of(1), of(0, 4));
        ranges("plan", of(1, 2), of(0, Integer.MAX_VALUE), of(0, 4));
        ranges("pass", of(2), of(1, 50));
        ranges("way", of(0, 1), of(0, 2), of(0, 2));
    }

    private void foretold() {
        ranges("tail", of(0), of(0, 2));
        ranges("tailWith", of(0, 1, 7), of(0, 2), of(0, 2), of(0, 10));
        ranges("bestDoor", of(0, 1), of(0, 2), of(0, 1));
        ranges("rise", of(1), of(0, 2));
        ranges("peak", of(1, 1), of(0, 2), of(0, 1));
        ranges("fell", of(0, 2), of(0, 2), of(1, 32));
    }

    private void texts() {
        ranges("type", of(65), of(32, 126));
        ranges("fault", of(0), of(0, 1));
    }

    /** "If there is no room or door with a certain number, this is INVALID_ARGUMENT." */
    private void noRoomAndNoDoor() {
        check.promise("no room or door with this number");
        Story empty = new Story(check);
        Story busy = busyHouse();
        String[] withRoom = {
            "door(#, 8, 5, 5, 3)", "roomOf(#, 0)", "roomOf(#, 4)", "sound(#, 7, 2, 70)", "way(#, #)", "way(#, 8)",
            "tail(#)", "rise(#)", "peak(#, 0)", "fell(#, 1)", "bestDoor(#, 0)", "tailWith(#, 0, 5)"
        };
        String[] withDoor = {"open(#, 4)", "refusal(#, 4)", "lock(#, 1)", "lock(#, 0)", "doorOf(#, 0)", "planDoor(#, 7, 2)",
            "tailWith(0, #, 5)"};
        for (int number = 0; number <= 13; number++) {
            for (String call : withRoom) {
                empty.keeps(call.replace("#", "" + number) + " = -1");
                if (number >= 3) {
                    busy.keeps(call.replace("#", "" + number) + " = -1");
                }
            }
            for (String call : withDoor) {
                empty.keeps(call.replace("#", "" + number) + " = -1");
                if (number >= 3) {
                    busy.keeps(call.replace("#", "" + number) + " = -1");
                }
            }
            if (number >= 3 && number != 8) {
                busy.keeps("door(0, " + number + ", 5, 5, 3) = -1", "way(0, " + number + ") = -1");
            }
        }
        for (int what = 13; what <= 30; what++) {
            if (what != 20 && what != 21) {
                busy.keeps("count(" + what + ") = -1");
            }
        }
    }
}
