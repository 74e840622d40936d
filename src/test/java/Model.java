import java.util.ArrayList;
import java.util.Comparator;
import java.util.List;
import java.util.Map;
import java.util.TreeMap;
import java.util.function.Predicate;
import java.util.regex.Matcher;
import java.util.regex.Pattern;

/** The document once more, as plainly as can be, with lists, maps and patterns: what answers are compared with. */
final class Model {
    private static final int INVALID = -1;
    private static final int IMPOSSIBLE = -2;
    private static final int LIMIT = -3;
    private static final int NOTHING = -4;

    static final class Room {
        long volume;
        long absorption;
        long energy;
        long absorbed;
        long given;
        Map<Integer, Long> energyAt = new TreeMap<>();

        Room copy() {
            Room it = new Room();
            it.volume = volume;
            it.absorption = absorption;
            it.energy = energy;
            it.absorbed = absorbed;
            it.given = given;
            it.energyAt = new TreeMap<>(energyAt);
            return it;
        }
    }

    static final class Door {
        int[] side;
        long area;
        int speed;
        int delay;
        int opening;
        int target;
        boolean locked;
        long[] through = new long[2];

        Door copy() {
            Door it = new Door();
            it.side = side;
            it.area = area;
            it.speed = speed;
            it.delay = delay;
            it.opening = opening;
            it.target = target;
            it.locked = locked;
            it.through = through.clone();
            return it;
        }

        boolean touches(int room) {
            return side[0] == room || side[1] == room;
        }
    }

    /** An entry of the plan: of a sound steps is 1 to 20, of a target 0. */
    record Entry(boolean sound, int place, int step, int steps, int value) {
        long energy() {
            return (long) steps * value;
        }

        boolean heard(int present) {
            return sound && present >= step && present <= step + steps - 1;
        }
    }

    record Packet(int door, int toRoom, int arrives, long energy) { }

    static final class State {
        List<Room> rooms = new ArrayList<>();
        List<Door> doors = new ArrayList<>();
        List<Entry> plan = new ArrayList<>();
        List<Packet> way = new ArrayList<>();
        int[] settings = {1000000, 10};
        int present;
        long escaped;
        long told;
        int amid;

        State copy() {
            State it = new State();
            rooms.forEach(room -> it.rooms.add(room.copy()));
            doors.forEach(door -> it.doors.add(door.copy()));
            it.plan.addAll(plan);
            it.way.addAll(way);
            it.settings = settings.clone();
            it.present = present;
            it.escaped = escaped;
            it.told = told;
            it.amid = amid;
            return it;
        }

        long flow(Door door, int side) {
            if (door.side[side] == 8) {
                return 0;
            }
            Room room = rooms.get(door.side[side]);
            return room.energy * door.area * door.opening / (10 * room.volume);
        }

        long inRooms() {
            return rooms.stream().mapToLong(room -> room.energy).sum();
        }

        long onWay() {
            return way.stream().mapToLong(Packet::energy).sum();
        }

        void add(Entry entry) {
            plan.add(entry);
            plan.sort(Comparator.comparingInt(Entry::step));
            told += entry.energy();
        }

        void step() {
            for (Entry entry : plan) {
                if (!entry.sound() && entry.step() == present && !doors.get(entry.place()).locked) {
                    doors.get(entry.place()).target = entry.value();
                }
            }
            plan.removeIf(entry -> !entry.sound() && entry.step() == present);
            for (Door door : doors) {
                int before = door.opening;
                for (int i = 0; i < door.speed; i++) {
                    door.opening += Integer.signum(door.target - door.opening);
                }
                Predicate<Entry> atDoor = entry -> entry.heard(present) && door.touches(entry.place());
                if (door.opening > before && plan.stream().anyMatch(atDoor)) {
                    amid++;
                }
            }
            for (Entry entry : plan) {
                if (entry.heard(present)) {
                    rooms.get(entry.place()).energy += entry.value();
                    rooms.get(entry.place()).given += entry.value();
                }
            }
            plan.removeIf(entry -> entry.sound() && entry.step() + entry.steps() - 1 == present);
            for (Room room : rooms) {
                long product = room.energy * room.absorption;
                long share = product / 1000 + (product % 1000 == 0 ? 0 : 1);
                room.energy -= share;
                room.absorbed += share;
            }
            exchange();
            present++;
            for (Room room : rooms) {
                room.energyAt.put(present, room.energy);
            }
        }

        private void exchange() {
            List<long[]> flows = new ArrayList<>();
            for (Door door : doors) {
                flows.add(new long[] {flow(door, 0), flow(door, 1)});
            }
            for (int d = 0; d < doors.size(); d++) {
                Door door = doors.get(d);
                for (int side = 0; side < 2; side++) {
                    long amount = flows.get(d)[side];
                    if (door.side[side] != 8) {
                        rooms.get(door.side[side]).energy -= amount;
                    }
                    door.through[side] += amount;
                    way.add(new Packet(d, door.side[1 - side], present + door.delay, amount));
                }
            }
            for (Packet packet : way) {
                if (packet.arrives() == present) {
                    if (packet.toRoom() == 8) {
                        escaped += packet.energy();
                    } else {
                        rooms.get(packet.toRoom()).energy += packet.energy();
                    }
                }
            }
            way.removeIf(packet -> packet.arrives() == present);
        }
    }

    private State now = new State();
    private final List<State> history = new ArrayList<>();
    private String text = "";

    int present() {
        return now.present;
    }

    int rooms() {
        return now.rooms.size();
    }

    int doors() {
        return now.doors.size();
    }

    private void change() {
        history.add(now.copy());
        if (history.size() == 5) {
            history.remove(0);
        }
    }

    private static boolean out(long value, long least, long most) {
        return value < least || value > most;
    }

    private boolean noRoom(int room) {
        return out(room, 0, now.rooms.size() - 1);
    }

    private boolean noDoor(int door) {
        return out(door, 0, now.doors.size() - 1);
    }

    private static int level(long energy) {
        return Long.toBinaryString(energy).length() - 1;
    }

    int room(int volume, int absorption) {
        if (out(volume, 10, 10000) || out(absorption, 0, 1000)) {
            return INVALID;
        }
        if (now.rooms.size() == 8) {
            return LIMIT;
        }
        change();
        Room room = new Room();
        room.volume = volume;
        room.absorption = absorption;
        room.energyAt.put(now.present, 0L);
        now.rooms.add(room);
        return now.rooms.size() - 1;
    }

    int door(int one, int other, int area, int speed, int delay) {
        if (noRoom(one) || other != 8 && noRoom(other) || one == other
                || out(area, 1, 1000) || out(speed, 1, 10) || out(delay, 0, 5)) {
            return INVALID;
        }
        for (int room : new int[] {one, other}) {
            long areas = now.doors.stream().filter(door -> door.touches(room)).mapToLong(door -> door.area).sum();
            if (room != 8 && areas + area > now.rooms.get(room).volume) {
                return IMPOSSIBLE;
            }
        }
        if (now.doors.size() == 12) {
            return LIMIT;
        }
        change();
        Door door = new Door();
        door.side = new int[] {one, other};
        door.area = area;
        door.speed = speed;
        door.delay = delay;
        now.doors.add(door);
        return now.doors.size() - 1;
    }

    int refusal(int door, int target) {
        if (noDoor(door) || out(target, 0, 10)) {
            return INVALID;
        }
        Door it = now.doors.get(door);
        if (it.locked) {
            return 1;
        }
        if (it.target == target) {
            return 2;
        }
        long[] density = new long[2];
        for (int side = 0; side < 2; side++) {
            density[side] = it.side[side] == 8 ? 0 : roomOf(it.side[side], 3);
        }
        boolean differ = Math.abs(density[0] - density[1]) > now.settings[0];
        return target > it.opening && differ ? 3 : 0;
    }

    int open(int door, int target) {
        int reason = refusal(door, target);
        if (reason != 0) {
            return reason < 0 ? reason : IMPOSSIBLE;
        }
        change();
        int had = now.doors.get(door).target;
        now.doors.get(door).target = target;
        return had;
    }

    int lock(int door, int on) {
        if (noDoor(door) || out(on, 0, 1)) {
            return INVALID;
        }
        if (now.doors.get(door).locked == (on == 1)) {
            return IMPOSSIBLE;
        }
        change();
        Door it = now.doors.get(door);
        it.locked = on == 1;
        if (on == 1) {
            it.target = it.opening;
        }
        return it.opening;
    }

    int set(int what, int value) {
        if (out(what, 0, 1) || out(value, 0, 1000000)) {
            return INVALID;
        }
        change();
        int had = now.settings[what];
        now.settings[what] = value;
        return had;
    }

    int roomOf(int room, int what) {
        if (noRoom(room) || out(what, 0, 8)) {
            return INVALID;
        }
        Room it = now.rooms.get(room);
        long heard = now.plan.stream().filter(entry -> entry.heard(now.present) && entry.place() == room).count();
        long[] answers = {it.volume, it.absorption, it.energy, it.energy / it.volume,
            it.energy == 0 ? NOTHING : level(it.energy), it.absorbed, it.given,
            now.doors.stream().filter(door -> door.touches(room)).count(), heard};
        return (int) answers[what];
    }

    int doorOf(int door, int what) {
        if (noDoor(door) || out(what, 0, 12)) {
            return INVALID;
        }
        Door it = now.doors.get(door);
        long onWay = now.way.stream().filter(packet -> packet.door() == door).mapToLong(Packet::energy).sum();
        long[] answers = {it.side[0], it.side[1], it.area, it.speed, it.delay, it.opening, it.target,
            it.locked ? 1 : 0, onWay, it.through[0], it.through[1], now.flow(it, 0), now.flow(it, 1)};
        return (int) answers[what];
    }

    int count(int what) {
        switch (what) {
            case 0: return now.rooms.size();
            case 1: return now.doors.size();
            case 2: return now.plan.size();
            case 3: return now.present;
            case 4: return (int) now.inRooms();
            case 5: return (int) now.onWay();
            case 6: return (int) now.rooms.stream().mapToLong(room -> room.absorbed).sum();
            case 7: return (int) now.escaped;
            case 8: return (int) now.rooms.stream().mapToLong(room -> room.given).sum();
            case 9: return (int) now.told;
            case 10: return now.amid;
            case 11: return history.size();
            case 12: return text.length();
            case 20: return now.settings[0];
            case 21: return now.settings[1];
            default: return INVALID;
        }
    }

    int undo() {
        if (history.isEmpty()) {
            return IMPOSSIBLE;
        }
        now = history.remove(history.size() - 1);
        return history.size();
    }

    private static boolean outOfSound(int step, int steps, int energy) {
        return out(step, 0, 5000) || out(steps, 1, 20) || out(energy, 1, 1000000);
    }

    int sound(int room, int step, int steps, int energy) {
        if (noRoom(room) || outOfSound(step, steps, energy)) {
            return INVALID;
        }
        if (step < now.present) {
            return IMPOSSIBLE;
        }
        if (now.plan.size() == 16 || now.told + (long) steps * energy > 1000000000L) {
            return LIMIT;
        }
        change();
        now.add(new Entry(true, room, step, steps, energy));
        return now.plan.size();
    }

    int planDoor(int door, int step, int target) {
        if (noDoor(door) || out(step, 0, 5000) || out(target, 0, 10)) {
            return INVALID;
        }
        if (step < now.present) {
            return IMPOSSIBLE;
        }
        if (now.plan.size() == 16) {
            return LIMIT;
        }
        change();
        now.add(new Entry(false, door, step, 0, target));
        return now.plan.size();
    }

    int cancel(int index) {
        if (out(index, 0, now.plan.size() - 1)) {
            return INVALID;
        }
        change();
        now.plan.remove(index);
        return now.plan.size();
    }

    int plan(int index, int what) {
        if (index < 0 || out(what, 0, 4)) {
            return INVALID;
        }
        if (index >= now.plan.size()) {
            return NOTHING;
        }
        Entry it = now.plan.get(index);
        return new int[] {it.step(), it.sound() ? 0 : 1, it.place(), it.steps(), it.value()}[what];
    }

    int pass(int steps) {
        if (out(steps, 1, 50)) {
            return INVALID;
        }
        if (now.present + steps > 5000) {
            return LIMIT;
        }
        change();
        for (int i = 0; i < steps; i++) {
            now.step();
        }
        return now.present;
    }

    int way(int from, int to) {
        if (noRoom(from) || to != 8 && noRoom(to)) {
            return INVALID;
        }
        int[] far = new int[9];
        java.util.Arrays.fill(far, 1000);
        far[from] = 0;
        for (int round = 0; round < 20; round++) {
            for (Door door : now.doors) {
                for (int side = 0; side < 2; side++) {
                    int here = door.side[side];
                    int there = door.side[1 - side];
                    if (door.opening > 0 && here != 8) {
                        far[there] = Math.min(far[there], far[here] + 1);
                    }
                }
            }
        }
        return far[to] >= 1000 ? NOTHING : far[to];
    }

    private State withoutSounds() {
        State it = now.copy();
        it.plan.removeIf(Entry::sound);
        return it;
    }

    private static int tailOf(State ahead, int room) {
        long start = ahead.rooms.get(room).energy;
        for (int steps = 1; steps <= 200; steps++) {
            ahead.step();
            if (1000 * ahead.rooms.get(room).energy <= start) {
                return steps;
            }
        }
        return NOTHING;
    }

    int tail(int room) {
        if (noRoom(room)) {
            return INVALID;
        }
        if (now.rooms.get(room).energy == 0) {
            return IMPOSSIBLE;
        }
        return tailOf(withoutSounds(), room);
    }

    int tailWith(int room, int door, int target) {
        if (noRoom(room) || noDoor(door) || out(target, 0, 10)) {
            return INVALID;
        }
        if (now.rooms.get(room).energy == 0) {
            return IMPOSSIBLE;
        }
        State ahead = withoutSounds();
        if (!ahead.doors.get(door).locked) {
            ahead.doors.get(door).target = target;
        }
        return tailOf(ahead, room);
    }

    int bestDoor(int room, int what) {
        if (noRoom(room) || out(what, 0, 1)) {
            return INVALID;
        }
        int asIs = tail(room);
        if (asIs == IMPOSSIBLE) {
            return IMPOSSIBLE;
        }
        int best = NOTHING;
        int bestTail = asIs == NOTHING ? 1000 : asIs;
        for (int door = 0; door < now.doors.size(); door++) {
            for (int target : new int[] {0, 10}) {
                int steps = tailWith(room, door, target);
                if (steps > 0 && steps < bestTail) {
                    bestTail = steps;
                    best = 100 * door + target;
                }
            }
        }
        return best == NOTHING || what == 0 ? best : bestTail;
    }

    int rise(int room) {
        if (noRoom(room)) {
            return INVALID;
        }
        State ahead = withoutSounds();
        for (int steps = 1; steps <= 200; steps++) {
            long before = ahead.rooms.get(room).energy;
            ahead.step();
            if (ahead.rooms.get(room).energy > before) {
                return steps;
            }
        }
        return NOTHING;
    }

    int peak(int room, int what) {
        if (noRoom(room) || out(what, 0, 1)) {
            return INVALID;
        }
        State ahead = now.copy();
        List<Long> energies = new ArrayList<>();
        for (int steps = 0; steps <= 200; steps++) {
            energies.add(ahead.rooms.get(room).energy);
            ahead.step();
        }
        long greatest = energies.stream().max(Comparator.naturalOrder()).orElse(0L);
        return what == 0 ? energies.indexOf(greatest) : (int) greatest;
    }

    int quiet() {
        State ahead = now.copy();
        for (int steps = 0; steps <= 200; steps++) {
            boolean sounds = ahead.plan.stream().anyMatch(Entry::sound);
            if (!sounds && ahead.inRooms() + ahead.onWay() <= ahead.settings[1]) {
                return steps;
            }
            ahead.step();
        }
        return NOTHING;
    }

    int fell(int room, int steps) {
        if (noRoom(room) || out(steps, 1, 32)) {
            return INVALID;
        }
        Room it = now.rooms.get(room);
        Long then = it.energyAt.get(now.present - steps);
        if (then == null) {
            return IMPOSSIBLE;
        }
        return then == 0 || it.energy == 0 ? NOTHING : 100 + level(then) - level(it.energy);
    }

    int type(int character) {
        if (out(character, 32, 126)) {
            return INVALID;
        }
        if (text.length() == 80) {
            return LIMIT;
        }
        text += (char) character;
        return text.length();
    }

    int clearText() {
        int had = text.length();
        text = "";
        return had;
    }

    private static final Pattern SOUND = Pattern.compile("s(\\d{1,2})@(\\d{1,4})\\*(\\d{1,2})=(\\d{1,7});");
    private static final Pattern TARGET = Pattern.compile("d(\\d{1,2})@(\\d{1,4}):(\\d{1,2});");

    private static int number(Matcher matcher, int group) {
        return Integer.parseInt(matcher.group(group));
    }

    /** Reads the text into entries; answers the fault's position and reason, or null. */
    private int[] read(List<Entry> entries) {
        int at = 0;
        long energy = now.told;
        while (at < text.length()) {
            Matcher sound = SOUND.matcher(text).region(at, text.length());
            Matcher target = TARGET.matcher(text).region(at, text.length());
            Entry entry;
            if (sound.lookingAt()) {
                entry = new Entry(true, number(sound, 1), number(sound, 2), number(sound, 3), number(sound, 4));
            } else if (target.lookingAt()) {
                entry = new Entry(false, number(target, 1), number(target, 2), 0, number(target, 3));
            } else {
                return new int[] {at, 1};
            }
            energy += entry.energy();
            int reason = reason(entry, entries.size(), energy);
            if (reason != 0) {
                return new int[] {at, reason};
            }
            entries.add(entry);
            at = entry.sound() ? sound.end() : target.end();
        }
        return null;
    }

    private int reason(Entry entry, int ahead, long energyWithIt) {
        if (entry.sound() ? noRoom(entry.place()) : noDoor(entry.place())) {
            return 2;
        }
        boolean isOut = entry.sound() ? outOfSound(entry.step(), entry.steps(), entry.value())
                : out(entry.step(), 0, 5000) || out(entry.value(), 0, 10);
        if (isOut) {
            return 3;
        }
        if (entry.step() < now.present) {
            return 4;
        }
        if (now.plan.size() + ahead + 1 > 16) {
            return 5;
        }
        return energyWithIt > 1000000000L ? 6 : 0;
    }

    int fault(int what) {
        if (out(what, 0, 1)) {
            return INVALID;
        }
        int[] fault = read(new ArrayList<>());
        return fault == null ? NOTHING : fault[what];
    }

    int load() {
        List<Entry> entries = new ArrayList<>();
        if (read(entries) != null) {
            return IMPOSSIBLE;
        }
        change();
        entries.forEach(now::add);
        return entries.size();
    }
}
