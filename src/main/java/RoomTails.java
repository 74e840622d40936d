/**
 * Rooms in which sounds die away, joined by doors that open amid a sound.
 *
 * All rows are made with the object and used again, so that no call makes any: a foretelling is a
 * copy of the house that goes on by itself.
 */
public final class RoomTails {
    public static final int INVALID_ARGUMENT = -1;
    public static final int NOT_POSSIBLE = -2;
    public static final int LIMIT_REACHED = -3;
    public static final int NOT_FOUND = -4;

    private static final int MOST_ROOMS = 8;
    private static final int MOST_DOORS = 12;
    private static final int MOST_ENTRIES = 16;
    private static final int MOST_STATES = 4;
    private static final int MOST_CHARACTERS = 80;

    private static final int OUTSIDE = 8;
    private static final int LAST_STEP = 5000;
    private static final int MOST_SOUND_STEPS = 20;
    private static final int MOST_SOUND_ENERGY = 1000000;
    private static final int MOST_TOLD_ENERGY = 1000000000;
    private static final int WIDEST = 10;
    private static final int GUARD = 0;
    private static final int QUIET_ENERGY = 1;
    private static final int MOST_OF_SETTING = 1000000;
    private static final int FORETOLD_STEPS = 200;
    private static final int KEPT_STEPS = 32;
    // a delay is at most 5, so that what is on its way arrives in one of 6 steps
    private static final int ARRIVALS = 6;

    private static final int LOCKED = 1;
    private static final int SAME_TARGET = 2;
    private static final int DENSITIES_DIFFER = 3;

    private static final int WRONG_FORM = 1;
    private static final int NO_SUCH_PLACE = 2;
    private static final int OUT_OF_RANGE = 3;
    private static final int PAST_STEP = 4;
    private static final int PLAN_FULL = 5;
    private static final int TOO_MUCH_ENERGY = 6;

    private final House house;
    private final House ahead;
    private final History history;
    private final Script script;
    private final Entry told;

    public RoomTails() {
        house = new House();
        ahead = new House();
        history = new History();
        script = new Script();
        told = new Entry();
    }

    // ---- rooms and doors

    public int room(int volume, int absorption) {
        if (!isWithin(volume, 10, 10000) || !isWithin(absorption, 0, 1000)) {
            return INVALID_ARGUMENT;
        }
        if (house.roomCount >= MOST_ROOMS) {
            return LIMIT_REACHED;
        }
        history.record(house);
        return house.addRoom(volume, absorption);
    }

    public int door(int one, int other, int area, int speed, int delay) {
        if (house.roomAt(one) == null || !isRoomOrOutside(other) || one == other
                || !isWithin(area, 1, 1000) || !isWithin(speed, 1, 10) || !isWithin(delay, 0, 5)) {
            return INVALID_ARGUMENT;
        }
        if (!house.hasWallFor(one, area) || !house.hasWallFor(other, area)) {
            return NOT_POSSIBLE;
        }
        if (house.doorCount >= MOST_DOORS) {
            return LIMIT_REACHED;
        }
        history.record(house);
        return house.addDoor(one, other, area, speed, delay);
    }

    public int open(int door, int target) {
        Door it = house.doorAt(door);
        if (it == null || !isWithin(target, 0, WIDEST)) {
            return INVALID_ARGUMENT;
        }
        if (house.reasonToRefuse(it, target) != 0) {
            return NOT_POSSIBLE;
        }
        history.record(house);
        int before = it.target;
        it.aimAt(target);
        return before;
    }

    public int refusal(int door, int target) {
        Door it = house.doorAt(door);
        if (it == null || !isWithin(target, 0, WIDEST)) {
            return INVALID_ARGUMENT;
        }
        return house.reasonToRefuse(it, target);
    }

    public int lock(int door, int on) {
        Door it = house.doorAt(door);
        if (it == null || !isWithin(on, 0, 1)) {
            return INVALID_ARGUMENT;
        }
        if (it.locked == (on == 1)) {
            return NOT_POSSIBLE;
        }
        history.record(house);
        it.locked = on == 1;
        if (it.locked) {
            it.target = it.opening;
        }
        return it.opening;
    }

    public int set(int what, int value) {
        if (!isWithin(what, 0, 1) || !isWithin(value, 0, MOST_OF_SETTING)) {
            return INVALID_ARGUMENT;
        }
        history.record(house);
        int before = house.settings[what];
        house.settings[what] = value;
        return before;
    }

    public int roomOf(int room, int what) {
        Room it = house.roomAt(room);
        if (it == null) {
            return INVALID_ARGUMENT;
        }
        switch (what) {
            case 0: return it.volume;
            case 1: return it.absorption;
            case 2: return it.energy;
            case 3: return it.density();
            case 4: return it.energy > 0 ? levelOf(it.energy) : NOT_FOUND;
            case 5: return it.absorbed;
            case 6: return it.given;
            case 7: return house.doorsOf(room);
            case 8: return house.plan.soundsHeard(room, house.present);
            default: return INVALID_ARGUMENT;
        }
    }

    public int doorOf(int door, int what) {
        Door it = house.doorAt(door);
        if (it == null) {
            return INVALID_ARGUMENT;
        }
        switch (what) {
            case 0: return it.sides[0];
            case 1: return it.sides[1];
            case 2: return it.area;
            case 3: return it.speed;
            case 4: return it.delay;
            case 5: return it.opening;
            case 6: return it.target;
            case 7: return it.locked ? 1 : 0;
            case 8: return it.energyOnItsWay();
            case 9: return it.gone[0];
            case 10: return it.gone[1];
            case 11: return house.wouldGo(it, 0);
            case 12: return house.wouldGo(it, 1);
            default: return INVALID_ARGUMENT;
        }
    }

    public int count(int what) {
        switch (what) {
            case 0: return house.roomCount;
            case 1: return house.doorCount;
            case 2: return house.plan.size;
            case 3: return house.present;
            case 4: return house.energyInRooms();
            case 5: return house.energyOnItsWay();
            case 6: return house.energyAbsorbed();
            case 7: return house.escaped;
            case 8: return house.energyGiven();
            case 9: return house.toldEnergy;
            case 10: return house.openedAmidSound;
            case 11: return history.size;
            case 12: return script.length;
            case 20: return house.settings[GUARD];
            case 21: return house.settings[QUIET_ENERGY];
            default: return INVALID_ARGUMENT;
        }
    }

    public int undo() {
        if (history.size == 0) {
            return NOT_POSSIBLE;
        }
        history.restore(house);
        return history.size;
    }

    // ---- sounds, plans, steps

    public int sound(int room, int step, int steps, int energy) {
        if (house.roomAt(room) == null || !isWithin(step, 0, LAST_STEP)
                || !isWithin(steps, 1, MOST_SOUND_STEPS) || !isWithin(energy, 1, MOST_SOUND_ENERGY)) {
            return INVALID_ARGUMENT;
        }
        if (step < house.present) {
            return NOT_POSSIBLE;
        }
        told.becomeSound(room, step, steps, energy);
        if (house.plan.isFull() || house.toldEnergy + told.allEnergy() > MOST_TOLD_ENERGY) {
            return LIMIT_REACHED;
        }
        history.record(house);
        house.take(told);
        return house.plan.size;
    }

    public int planDoor(int door, int step, int target) {
        if (house.doorAt(door) == null || !isWithin(step, 0, LAST_STEP) || !isWithin(target, 0, WIDEST)) {
            return INVALID_ARGUMENT;
        }
        if (step < house.present) {
            return NOT_POSSIBLE;
        }
        if (house.plan.isFull()) {
            return LIMIT_REACHED;
        }
        history.record(house);
        told.becomeTarget(door, step, target);
        house.take(told);
        return house.plan.size;
    }

    public int cancel(int index) {
        if (house.plan.entryAt(index) == null) {
            return INVALID_ARGUMENT;
        }
        history.record(house);
        house.plan.drop(index);
        return house.plan.size;
    }

    public int plan(int index, int what) {
        if (index < 0 || !isWithin(what, 0, 4)) {
            return INVALID_ARGUMENT;
        }
        Entry entry = house.plan.entryAt(index);
        if (entry == null) {
            return NOT_FOUND;
        }
        switch (what) {
            case 0: return entry.step;
            case 1: return entry.isSound ? 0 : 1;
            case 2: return entry.place;
            case 3: return entry.steps;
            default: return entry.amount;
        }
    }

    public int pass(int steps) {
        if (!isWithin(steps, 1, 50)) {
            return INVALID_ARGUMENT;
        }
        if (house.present + steps > LAST_STEP) {
            return LIMIT_REACHED;
        }
        history.record(house);
        for (int i = 0; i < steps; i++) {
            house.goOn();
        }
        return house.present;
    }

    public int way(int from, int to) {
        if (house.roomAt(from) == null || !isRoomOrOutside(to)) {
            return INVALID_ARGUMENT;
        }
        int reached = 1 << from;
        // no shortest way leads through more doors than there are rooms
        for (int doors = 0; doors <= MOST_ROOMS; doors++) {
            if ((reached >> to & 1) == 1) {
                return doors;
            }
            reached = house.reachedThroughOneMoreDoor(reached);
        }
        return NOT_FOUND;
    }

    // ---- foretold

    public int tail(int room) {
        Room it = house.roomAt(room);
        if (it == null) {
            return INVALID_ARGUMENT;
        }
        if (it.energy == 0) {
            return NOT_POSSIBLE;
        }
        lookAheadWithoutSounds();
        return tailAhead(room, FORETOLD_STEPS);
    }

    public int tailWith(int room, int door, int target) {
        Room it = house.roomAt(room);
        if (it == null || house.doorAt(door) == null || !isWithin(target, 0, WIDEST)) {
            return INVALID_ARGUMENT;
        }
        if (it.energy == 0) {
            return NOT_POSSIBLE;
        }
        return tailIfAimed(room, door, target, FORETOLD_STEPS);
    }

    public int bestDoor(int room, int what) {
        Room it = house.roomAt(room);
        if (it == null || !isWithin(what, 0, 1)) {
            return INVALID_ARGUMENT;
        }
        if (it.energy == 0) {
            return NOT_POSSIBLE;
        }
        lookAheadWithoutSounds();
        int asItIs = tailAhead(room, FORETOLD_STEPS);
        int shortest = asItIs == NOT_FOUND ? FORETOLD_STEPS + 1 : asItIs;
        int best = NOT_FOUND;
        for (int door = 0; door < house.doorCount; door++) {
            for (int target = 0; target <= WIDEST; target += WIDEST) {
                if (house.wouldStayAimed(door, target)) {
                    continue;
                }
                // only a shorter one is better, so the search ends one step ahead of the best one
                int steps = tailIfAimed(room, door, target, shortest - 1);
                if (steps != NOT_FOUND) {
                    shortest = steps;
                    best = 100 * door + target;
                }
            }
        }
        if (best == NOT_FOUND) {
            return NOT_FOUND;
        }
        return what == 0 ? best : shortest;
    }

    public int rise(int room) {
        if (house.roomAt(room) == null) {
            return INVALID_ARGUMENT;
        }
        lookAheadWithoutSounds();
        int before = ahead.energyIn(room);
        for (int steps = 1; steps <= FORETOLD_STEPS; steps++) {
            ahead.goOn();
            int energy = ahead.energyIn(room);
            if (energy > before) {
                return steps;
            }
            before = energy;
        }
        return NOT_FOUND;
    }

    public int peak(int room, int what) {
        if (house.roomAt(room) == null || !isWithin(what, 0, 1)) {
            return INVALID_ARGUMENT;
        }
        ahead.copyFrom(house);
        int greatest = ahead.energyIn(room);
        int first = 0;
        for (int steps = 1; steps <= FORETOLD_STEPS; steps++) {
            ahead.goOn();
            int energy = ahead.energyIn(room);
            if (energy > greatest) {
                greatest = energy;
                first = steps;
            }
        }
        return what == 0 ? first : greatest;
    }

    public int quiet() {
        ahead.copyFrom(house);
        for (int steps = 0; steps <= FORETOLD_STEPS; steps++) {
            if (ahead.isQuiet()) {
                return steps;
            }
            ahead.goOn();
        }
        return NOT_FOUND;
    }

    public int fell(int room, int steps) {
        Room it = house.roomAt(room);
        if (it == null || !isWithin(steps, 1, KEPT_STEPS)) {
            return INVALID_ARGUMENT;
        }
        int then = house.present - steps;
        // a room's first step is never below 0, so this covers steps that have not gone by as well
        if (then < it.firstStep) {
            return NOT_POSSIBLE;
        }
        int energyThen = it.energyAheadOf(then);
        if (energyThen <= 0 || it.energy <= 0) {
            return NOT_FOUND;
        }
        return 100 + levelOf(energyThen) - levelOf(it.energy);
    }

    // ---- texts

    public int type(int character) {
        if (!isWithin(character, 32, 126)) {
            return INVALID_ARGUMENT;
        }
        if (script.length >= MOST_CHARACTERS) {
            return LIMIT_REACHED;
        }
        script.append((char) character);
        return script.length;
    }

    public int clearText() {
        int before = script.length;
        script.length = 0;
        return before;
    }

    public int fault(int what) {
        if (!isWithin(what, 0, 1)) {
            return INVALID_ARGUMENT;
        }
        script.check(house);
        if (script.faultReason == 0) {
            return NOT_FOUND;
        }
        return what == 0 ? script.faultPosition : script.faultReason;
    }

    public int load() {
        script.check(house);
        if (script.faultReason != 0) {
            return NOT_POSSIBLE;
        }
        history.record(house);
        return script.giveTo(house);
    }

    // ---- helpers

    private static boolean isWithin(int value, int least, int most) {
        return value >= least && value <= most;
    }

    private static int levelOf(int energy) {
        int level = 0;
        for (int n = 1; n < 31; n++) {
            if (energy >> n > 0) {
                level = n;
            }
        }
        return level;
    }

    private boolean isRoomOrOutside(int number) {
        return number == OUTSIDE || house.roomAt(number) != null;
    }

    private void lookAheadWithoutSounds() {
        ahead.copyFrom(house);
        ahead.plan.dropSounds();
    }

    private int tailIfAimed(int room, int door, int target, int mostSteps) {
        lookAheadWithoutSounds();
        Door it = ahead.doorAt(door);
        if (it != null) {
            it.aimAt(target);
        }
        return tailAhead(room, mostSteps);
    }

    private int tailAhead(int room, int mostSteps) {
        int faded = ahead.energyIn(room) / 1000;
        for (int steps = 1; steps <= mostSteps; steps++) {
            ahead.goOn();
            if (ahead.energyIn(room) <= faded) {
                return steps;
            }
        }
        return NOT_FOUND;
    }

    private static final class Room {
        int volume;
        int absorption;
        int energy;
        int absorbed;
        int given;
        int firstStep;
        // what it had ahead of the last steps, each at its number modulo KEPT_STEPS
        final int[] energies = new int[KEPT_STEPS];

        void begin(int newVolume, int newAbsorption, int step) {
            volume = newVolume;
            absorption = newAbsorption;
            firstStep = step;
        }

        void copyFrom(Room other) {
            volume = other.volume;
            absorption = other.absorption;
            energy = other.energy;
            absorbed = other.absorbed;
            given = other.given;
            firstStep = other.firstStep;
            System.arraycopy(other.energies, 0, energies, 0, KEPT_STEPS);
        }

        int density() {
            return volume > 0 ? energy / volume : 0;
        }

        int energyAheadOf(int step) {
            return energies[Math.floorMod(step, KEPT_STEPS)];
        }

        void keepEnergy(int step) {
            energies[Math.floorMod(step, KEPT_STEPS)] = energy;
        }

        void hear(int soundEnergy) {
            energy += soundEnergy;
            given += soundEnergy;
        }

        void absorbShare() {
            int share = (int) (((long) energy * absorption + 999) / 1000);
            energy -= share;
            absorbed += share;
        }

        int shareThrough(Door door) {
            if (volume <= 0) {
                return 0;
            }
            return (int) ((long) energy * door.area * door.opening / (10L * volume));
        }
    }

    private static final class Door {
        final int[] sides = new int[2];
        int area;
        int speed;
        int delay;
        int opening;
        int target;
        boolean locked;
        final int[] gone = new int[2];
        // what goes in the present step, kept until all doors know theirs
        final int[] leaving = new int[2];
        // what will arrive at a side, by the step in which it does
        final int[] arriving = new int[2 * ARRIVALS];

        void begin(int one, int other, int newArea, int newSpeed, int newDelay) {
            sides[0] = one;
            sides[1] = other;
            area = newArea;
            speed = newSpeed;
            delay = newDelay;
        }

        void copyFrom(Door other) {
            area = other.area;
            speed = other.speed;
            delay = other.delay;
            opening = other.opening;
            target = other.target;
            locked = other.locked;
            System.arraycopy(other.sides, 0, sides, 0, 2);
            System.arraycopy(other.gone, 0, gone, 0, 2);
            System.arraycopy(other.arriving, 0, arriving, 0, 2 * ARRIVALS);
        }

        boolean isAt(int room) {
            return area > 0 && (sides[0] == room || sides[1] == room);
        }

        void aimAt(int newTarget) {
            if (!locked) {
                target = newTarget;
            }
        }

        void move() {
            if (opening < target) {
                opening = Math.min(target, opening + speed);
            } else {
                opening = Math.max(target, opening - speed);
            }
        }

        void send(int energy, int fromSide, int step) {
            int from = fromSide == 0 ? 0 : 1;
            gone[from] += energy;
            arriving[placeOf(step + delay, 1 - from)] += energy;
        }

        int takeArrived(int side, int step) {
            int place = placeOf(step, side);
            int energy = arriving[place];
            arriving[place] = 0;
            return energy;
        }

        int energyOnItsWay() {
            int sum = 0;
            for (int energy : arriving) {
                sum += energy;
            }
            return sum;
        }

        private static int placeOf(int step, int side) {
            return 2 * Math.floorMod(step, ARRIVALS) + (side == 0 ? 0 : 1);
        }
    }

    private static final class Entry {
        boolean isSound;
        int step;
        int place;
        int steps;
        int amount;

        void becomeSound(int room, int firstStep, int newSteps, int energy) {
            isSound = true;
            place = room;
            step = firstStep;
            steps = newSteps;
            amount = energy;
        }

        void becomeTarget(int door, int newStep, int target) {
            isSound = false;
            place = door;
            step = newStep;
            steps = 0;
            amount = target;
        }

        void copyFrom(Entry other) {
            isSound = other.isSound;
            step = other.step;
            place = other.place;
            steps = other.steps;
            amount = other.amount;
        }

        boolean isHeardIn(int someStep) {
            return isSound && step <= someStep && someStep < step + steps;
        }

        boolean isTargetFor(int someStep) {
            return !isSound && step == someStep;
        }

        boolean endsWith(int someStep) {
            return isSound ? step + steps - 1 <= someStep : step <= someStep;
        }

        int allEnergy() {
            return isSound ? steps * amount : 0;
        }
    }

    private static final class Plan {
        final Entry[] entries = new Entry[MOST_ENTRIES];
        int size;

        Plan() {
            for (int i = 0; i < entries.length; i++) {
                entries[i] = new Entry();
            }
        }

        void copyFrom(Plan other) {
            size = other.size;
            for (int i = 0; i < entries.length && i < other.entries.length; i++) {
                entries[i].copyFrom(other.entries[i]);
            }
        }

        boolean isFull() {
            return size >= entries.length;
        }

        Entry entryAt(int index) {
            return index >= 0 && index < size && index < entries.length ? entries[index] : null;
        }

        void insert(Entry newEntry) {
            if (size < 0 || size >= entries.length) {
                return;
            }
            Entry free = entries[size];
            free.copyFrom(newEntry);
            int index = size;
            // of equal steps the one told first stays ahead
            while (index > 0 && entries[index - 1].step > free.step) {
                entries[index] = entries[index - 1];
                index--;
            }
            entries[index] = free;
            size++;
        }

        void drop(int index) {
            if (entryAt(index) == null) {
                return;
            }
            Entry free = entries[index];
            for (int i = index; i + 1 < size && i + 1 < entries.length; i++) {
                entries[i] = entries[i + 1];
            }
            size--;
            if (size >= 0 && size < entries.length) {
                entries[size] = free;
            }
        }

        void dropEnded(int step) {
            for (int i = size - 1; i >= 0; i--) {
                Entry entry = entryAt(i);
                if (entry != null && entry.endsWith(step)) {
                    drop(i);
                }
            }
        }

        void dropSounds() {
            for (int i = size - 1; i >= 0; i--) {
                Entry entry = entryAt(i);
                if (entry != null && entry.isSound) {
                    drop(i);
                }
            }
        }

        boolean hasSound() {
            for (int i = 0; i < size && i < entries.length; i++) {
                if (entries[i].isSound) {
                    return true;
                }
            }
            return false;
        }

        int soundsHeard(int room, int step) {
            int sounds = 0;
            for (int i = 0; i < size && i < entries.length; i++) {
                if (entries[i].place == room && entries[i].isHeardIn(step)) {
                    sounds++;
                }
            }
            return sounds;
        }
    }

    /**
     * Everything that undo restores. Rooms and doors that are not there yet are all 0, so that they
     * add nothing to a sum and nothing moves in them.
     */
    private static final class House {
        final Room[] rooms = new Room[MOST_ROOMS];
        final Door[] doors = new Door[MOST_DOORS];
        final Plan plan = new Plan();
        final int[] settings = {1000000, 10};
        int roomCount;
        int doorCount;
        int present;
        int escaped;
        int toldEnergy;
        int openedAmidSound;

        House() {
            for (int i = 0; i < rooms.length; i++) {
                rooms[i] = new Room();
            }
            for (int i = 0; i < doors.length; i++) {
                doors[i] = new Door();
            }
        }

        void copyFrom(House other) {
            for (int i = 0; i < rooms.length && i < other.rooms.length; i++) {
                rooms[i].copyFrom(other.rooms[i]);
            }
            for (int i = 0; i < doors.length && i < other.doors.length; i++) {
                doors[i].copyFrom(other.doors[i]);
            }
            plan.copyFrom(other.plan);
            System.arraycopy(other.settings, 0, settings, 0, 2);
            roomCount = other.roomCount;
            doorCount = other.doorCount;
            present = other.present;
            escaped = other.escaped;
            toldEnergy = other.toldEnergy;
            openedAmidSound = other.openedAmidSound;
        }

        Room roomAt(int number) {
            return number >= 0 && number < roomCount && number < rooms.length ? rooms[number] : null;
        }

        Door doorAt(int number) {
            return number >= 0 && number < doorCount && number < doors.length ? doors[number] : null;
        }

        int addRoom(int volume, int absorption) {
            if (roomCount < 0 || roomCount >= rooms.length) {
                return LIMIT_REACHED;
            }
            rooms[roomCount].begin(volume, absorption, present);
            return roomCount++;
        }

        int addDoor(int one, int other, int area, int speed, int delay) {
            if (doorCount < 0 || doorCount >= doors.length) {
                return LIMIT_REACHED;
            }
            Door door = doors[doorCount];
            door.begin(one, other, area, speed, delay);
            return doorCount++;
        }

        boolean hasWallFor(int room, int area) {
            Room it = roomAt(room);
            if (it == null) {
                return true;
            }
            int sum = area;
            for (Door door : doors) {
                sum += door.isAt(room) ? door.area : 0;
            }
            return sum <= it.volume;
        }

        int doorsOf(int room) {
            int sum = 0;
            for (Door door : doors) {
                sum += door.isAt(room) ? 1 : 0;
            }
            return sum;
        }

        int reasonToRefuse(Door door, int target) {
            if (door.locked) {
                return LOCKED;
            }
            if (door.target == target) {
                return SAME_TARGET;
            }
            int difference = Math.abs(densityAt(door.sides[0]) - densityAt(door.sides[1]));
            if (target > door.opening && difference > settings[GUARD]) {
                return DENSITIES_DIFFER;
            }
            return 0;
        }

        boolean wouldStayAimed(int door, int target) {
            Door it = doorAt(door);
            return it == null || it.locked || it.target == target;
        }

        private int densityAt(int place) {
            Room room = roomAt(place);
            return room == null ? 0 : room.density();
        }

        int energyIn(int place) {
            Room room = roomAt(place);
            return room == null ? 0 : room.energy;
        }

        int energyInRooms() {
            int sum = 0;
            for (Room room : rooms) {
                sum += room.energy;
            }
            return sum;
        }

        int energyOnItsWay() {
            int sum = 0;
            for (Door door : doors) {
                sum += door.energyOnItsWay();
            }
            return sum;
        }

        int energyAbsorbed() {
            int sum = 0;
            for (Room room : rooms) {
                sum += room.absorbed;
            }
            return sum;
        }

        int energyGiven() {
            int sum = 0;
            for (Room room : rooms) {
                sum += room.given;
            }
            return sum;
        }

        boolean isQuiet() {
            return energyInRooms() + energyOnItsWay() <= settings[QUIET_ENERGY] && !plan.hasSound();
        }

        int reachedThroughOneMoreDoor(int reached) {
            int grown = reached;
            for (Door door : doors) {
                int one = door.sides[0];
                int other = door.sides[1];
                if (door.opening > 0 && (reached >> one & 1) == 1) {
                    grown |= 1 << other;
                }
                if (door.opening > 0 && (reached >> other & 1) == 1 && other != OUTSIDE) {
                    grown |= 1 << one;
                }
            }
            return grown;
        }

        void take(Entry entry) {
            plan.insert(entry);
            toldEnergy += entry.allEnergy();
        }

        void goOn() {
            for (int i = 0; i < roomCount && i < rooms.length; i++) {
                rooms[i].keepEnergy(present);
            }
            aimPlannedDoors();
            moveDoors();
            giveSounds();
            plan.dropEnded(present);
            for (int i = 0; i < roomCount && i < rooms.length; i++) {
                rooms[i].absorbShare();
            }
            sendThroughDoors();
            letArrive();
            present++;
        }

        private void aimPlannedDoors() {
            for (int i = 0; i < plan.size; i++) {
                Entry entry = plan.entryAt(i);
                if (entry != null && entry.isTargetFor(present)) {
                    Door door = doorAt(entry.place);
                    if (door != null) {
                        door.aimAt(entry.amount);
                    }
                }
            }
        }

        private void moveDoors() {
            for (int i = 0; i < doorCount && i < doors.length; i++) {
                Door door = doors[i];
                int before = door.opening;
                door.move();
                if (door.opening > before
                        && plan.soundsHeard(door.sides[0], present) + plan.soundsHeard(door.sides[1], present) > 0) {
                    openedAmidSound++;
                }
            }
        }

        private void giveSounds() {
            for (int i = 0; i < plan.size; i++) {
                Entry entry = plan.entryAt(i);
                if (entry != null && entry.isHeardIn(present)) {
                    Room room = roomAt(entry.place);
                    if (room != null) {
                        room.hear(entry.amount);
                    }
                }
            }
        }

        int wouldGo(Door door, int side) {
            Room room = roomAt(side == 0 ? door.sides[0] : door.sides[1]);
            return room == null ? 0 : room.shareThrough(door);
        }

        private void sendThroughDoors() {
            for (int i = 0; i < doorCount && i < doors.length; i++) {
                for (int side = 0; side < 2; side++) {
                    doors[i].leaving[side] = wouldGo(doors[i], side);
                }
            }
            for (int i = 0; i < doorCount && i < doors.length; i++) {
                Door door = doors[i];
                for (int side = 0; side < 2; side++) {
                    Room room = roomAt(door.sides[side]);
                    if (room != null) {
                        room.energy -= door.leaving[side];
                        door.send(door.leaving[side], side, present);
                    }
                }
            }
        }

        private void letArrive() {
            for (int i = 0; i < doorCount && i < doors.length; i++) {
                Door door = doors[i];
                for (int side = 0; side < 2; side++) {
                    int energy = door.takeArrived(side, present);
                    Room room = roomAt(door.sides[side]);
                    if (room == null) {
                        escaped += energy;
                    } else {
                        room.energy += energy;
                    }
                }
            }
        }
    }

    private static final class History {
        final House[] states = new House[MOST_STATES];
        int size;

        History() {
            for (int i = 0; i < states.length; i++) {
                states[i] = new House();
            }
        }

        void record(House house) {
            if (size >= states.length) {
                forgetOldest();
            }
            if (size >= 0 && size < states.length) {
                states[size].copyFrom(house);
                size++;
            }
        }

        private void forgetOldest() {
            House oldest = states[0];
            for (int i = 0; i + 1 < states.length; i++) {
                states[i] = states[i + 1];
            }
            states[states.length - 1] = oldest;
            size = states.length - 1;
        }

        void restore(House house) {
            if (size > 0 && size <= states.length) {
                size--;
                house.copyFrom(states[size]);
            }
        }
    }

    /** The text, and the place up to which it has been read. */
    private static final class Script {
        final char[] characters = new char[MOST_CHARACTERS];
        int length;
        int faultPosition;
        int faultReason;
        private int at;
        private final Entry entry = new Entry();

        void append(char character) {
            if (length >= 0 && length < characters.length) {
                characters[length] = character;
                length++;
            }
        }

        void check(House house) {
            int entriesAhead = 0;
            int energyAhead = 0;
            faultReason = 0;
            at = 0;
            for (int i = 0; i < MOST_CHARACTERS && at < length; i++) {
                faultPosition = at;
                faultReason = readEntry() ? reasonAgainst(house, entriesAhead, energyAhead) : WRONG_FORM;
                if (faultReason != 0) {
                    return;
                }
                entriesAhead++;
                energyAhead += entry.allEnergy();
            }
        }

        int giveTo(House house) {
            int entries = 0;
            at = 0;
            for (int i = 0; i < MOST_CHARACTERS && at < length && readEntry(); i++) {
                house.take(entry);
                entries++;
            }
            return entries;
        }

        private int reasonAgainst(House house, int entriesAhead, int energyAhead) {
            boolean isThere = entry.isSound
                    ? house.roomAt(entry.place) != null : house.doorAt(entry.place) != null;
            if (!isThere) {
                return NO_SUCH_PLACE;
            }
            boolean isInRange = entry.isSound
                    ? isWithin(entry.steps, 1, MOST_SOUND_STEPS) && isWithin(entry.amount, 1, MOST_SOUND_ENERGY)
                    : isWithin(entry.amount, 0, WIDEST);
            if (!isInRange || !isWithin(entry.step, 0, LAST_STEP)) {
                return OUT_OF_RANGE;
            }
            if (entry.step < house.present) {
                return PAST_STEP;
            }
            if (house.plan.size + entriesAhead >= MOST_ENTRIES) {
                return PLAN_FULL;
            }
            if (house.toldEnergy + energyAhead + entry.allEnergy() > MOST_TOLD_ENERGY) {
                return TOO_MUCH_ENERGY;
            }
            return 0;
        }

        private boolean readEntry() {
            if (readSign('s')) {
                return readSound();
            }
            return readSign('d') && readTarget();
        }

        private boolean readSound() {
            int room = readNumber(2);
            boolean isRight = readSign('@');
            int step = readNumber(4);
            isRight = isRight && readSign('*');
            int steps = readNumber(2);
            isRight = isRight && readSign('=');
            int energy = readNumber(7);
            isRight = isRight && readSign(';');
            entry.becomeSound(room, step, steps, energy);
            return isRight && room >= 0 && step >= 0 && steps >= 0 && energy >= 0;
        }

        private boolean readTarget() {
            int door = readNumber(2);
            boolean isRight = readSign('@');
            int step = readNumber(4);
            isRight = isRight && readSign(':');
            int target = readNumber(2);
            isRight = isRight && readSign(';');
            entry.becomeTarget(door, step, target);
            return isRight && door >= 0 && step >= 0 && target >= 0;
        }

        private boolean readSign(char character) {
            if (at < 0 || at >= length || at >= characters.length || characters[at] != character) {
                return false;
            }
            at++;
            return true;
        }

        /** Without a digit it is -1: no entry's number is. */
        private int readNumber(int mostDigits) {
            int number = -1;
            for (int i = 0; i < mostDigits && at >= 0 && at < length && at < characters.length; i++) {
                int digit = characters[at] - '0';
                if (digit < 0 || digit > 9) {
                    return number;
                }
                number = Math.max(number, 0) * 10 + digit;
                at++;
            }
            return number;
        }
    }
}
