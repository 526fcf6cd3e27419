/** A chase of a cat and a mouse through rooms with doors. */
public final class DoorChase {
    private static final int MOST_ROOMS = 8;
    private static final int MOST_DOORS = 14;
    private static final int MOST_CHEESE = 9;
    private static final int MOST_PERIOD = 4;
    private static final int MOST_PLAYED = 60;

    // 12 is a multiple of every period and of 2: after so many turns each door,
    // and who goes, is as it was, so a turn counts only by its phase, 0 to 11.
    private static final int CYCLE = 12;

    private static final int NONE = -1;
    private static final int NEVER = -1;

    private final House house = new House();
    // Looked out anew whenever rooms, doors or locks change: a chase asks it far more often.
    private final Outlook outlook = new Outlook();
    private final Outlook outlookIfLocked = new Outlook();

    private int now;
    private boolean isGoingOn;
    private boolean wasCaught;
    private int cat = NONE;
    private int mouse = NONE;
    private int cheeseEaten;

    public DoorChase() {
    }

    // ---- the house

    public int addRoom(boolean isSafe) throws IllegalStateException {
        if (house.roomCount >= MOST_ROOMS) {
            throw new IllegalStateException("there are 8 rooms");
        }
        int room = house.makeRoom(isSafe);
        outlook.lookOut(house, NONE);
        return room;
    }

    public int addDoor(int one, int other, int period, int rest)
            throws IndexOutOfBoundsException, IllegalArgumentException, IllegalStateException {
        requireRoom(one);
        requireRoom(other);
        if (one == other) {
            throw new IllegalArgumentException("a door joins two rooms");
        }
        if (period < 1 || period > MOST_PERIOD || rest < 0 || rest >= period) {
            throw new IllegalArgumentException("no such period or rest");
        }
        if (house.doorCount >= MOST_DOORS) {
            throw new IllegalStateException("there are 14 doors");
        }
        if (house.joining(one, other) != NONE) {
            throw new IllegalStateException("a door joins these rooms");
        }
        int door = house.makeDoor(one, other, period, rest);
        outlook.lookOut(house, NONE);
        return door;
    }

    public boolean turnLock(int door) throws IndexOutOfBoundsException {
        requireDoor(door);
        house.locked[door] = !house.locked[door];
        outlook.lookOut(house, NONE);
        return house.locked[door];
    }

    public int putCheese(int room, int many)
            throws IndexOutOfBoundsException, IllegalArgumentException, IllegalStateException {
        requireRoom(room);
        if (many < 1 || many > MOST_CHEESE) {
            throw new IllegalArgumentException("many is 1 to 9");
        }
        if (house.cheese[room] + many > MOST_CHEESE) {
            throw new IllegalStateException("a room has at most 9 cheese");
        }
        house.cheese[room] += many;
        return house.cheese[room];
    }

    // ---- the chase

    public int begin(int cat, int mouse) throws IndexOutOfBoundsException, IllegalArgumentException {
        requireRoom(cat);
        requireRoom(mouse);
        if (cat == mouse) {
            throw new IllegalArgumentException("cat and mouse are in one room");
        }
        requireCatsRoom(cat);
        this.cat = cat;
        this.mouse = mouse;
        now = 0;
        cheeseEaten = 0;
        wasCaught = false;
        isGoingOn = true;
        return turnsToCatch();
    }

    public boolean go(int room) throws IndexOutOfBoundsException, IllegalStateException {
        requireRoom(room);
        requireChase();
        if (!outlook.canGo(phaseAfter(0), whoGoesIn(), room)) {
            throw new IllegalStateException("who goes can't go there");
        }
        moveTo(room);
        return !isGoingOn;
    }

    public int play(int most) throws IllegalArgumentException, IllegalStateException {
        if (most < 1 || most > MOST_PLAYED) {
            throw new IllegalArgumentException("most is 1 to 60");
        }
        requireChase();
        int played = 0;
        while (played < most && isGoingOn) {
            moveTo(bestGo());
            played++;
        }
        return played;
    }

    // ---- what there is

    public int turn() {
        return now;
    }

    public int rooms() {
        return house.roomCount;
    }

    public int doors() {
        return house.doorCount;
    }

    public boolean isOn() {
        return isGoingOn;
    }

    public boolean isCaught() {
        return wasCaught;
    }

    public boolean isCatsTurn() {
        return isCatsPhase(now);
    }

    public int catIn() {
        return cat;
    }

    public int mouseIn() {
        return mouse;
    }

    public int eaten() {
        return cheeseEaten;
    }

    // ---- rooms and doors

    public boolean isSafe(int room) throws IndexOutOfBoundsException {
        requireRoom(room);
        return house.safe[room];
    }

    public int cheeseIn(int room) throws IndexOutOfBoundsException {
        requireRoom(room);
        return house.cheese[room];
    }

    public int doorsOf(int room) throws IndexOutOfBoundsException {
        requireRoom(room);
        return house.unlockedDoorsAt(room);
    }

    public boolean isLocked(int door) throws IndexOutOfBoundsException {
        requireDoor(door);
        return house.locked[door];
    }

    public boolean isOpen(int door) throws IndexOutOfBoundsException {
        requireDoor(door);
        return house.isOpenIn(door, phaseAfter(0));
    }

    public int turnsUntilOpen(int door) throws IndexOutOfBoundsException {
        requireDoor(door);
        for (int turns = 0; turns < CYCLE; turns++) {
            if (house.isOpenIn(door, phaseAfter(turns))) {
                return turns;
            }
        }
        return NEVER;
    }

    public int doorBetween(int one, int other) throws IndexOutOfBoundsException {
        requireRoom(one);
        requireRoom(other);
        return house.joining(one, other);
    }

    public boolean isWayOpen(int one, int other) throws IndexOutOfBoundsException {
        requireRoom(one);
        requireRoom(other);
        int door = house.joining(one, other);
        return door != NONE && house.isOpenIn(door, phaseAfter(0));
    }

    public int distance(int one, int other) throws IndexOutOfBoundsException {
        requireRoom(one);
        requireRoom(other);
        return house.doorsFrom(one, other);
    }

    // ---- what would be

    public int catArrives(int room) throws IndexOutOfBoundsException, IllegalStateException {
        requireRoom(room);
        requireChase();
        return turnsToReach(cat, room, true);
    }

    public int mouseArrives(int room) throws IndexOutOfBoundsException, IllegalStateException {
        requireRoom(room);
        requireChase();
        return turnsToReach(mouse, room, false);
    }

    public int turnsToCatch() {
        return isGoingOn ? turnsOf(cat, mouse) : NEVER;
    }

    public int turnsFrom(int cat, int mouse) throws IndexOutOfBoundsException, IllegalArgumentException {
        requireRoom(cat);
        requireRoom(mouse);
        requireCatsRoom(cat);
        return turnsOf(cat, mouse);
    }

    public int safeNow() {
        int count = 0;
        for (int room = 0; isGoingOn && room < house.roomCount; room++) {
            if (turnsOf(cat, room) == NEVER) {
                count++;
            }
        }
        return count;
    }

    public int bestGo() {
        if (!isGoingOn) {
            return NONE;
        }
        if (!isCatsTurn()) {
            return bestForMouse();
        }
        int room = soonestForCat();
        return room != NONE ? room : nearestForCat();
    }

    public int pairsCaught() {
        int count = 0;
        for (int pair = 0; pair < MOST_ROOMS * MOST_ROOMS; pair++) {
            if (turnsOfPair(pair) != NEVER) {
                count++;
            }
        }
        return count;
    }

    public int longestChase() {
        int longest = NEVER;
        for (int pair = 0; pair < MOST_ROOMS * MOST_ROOMS; pair++) {
            longest = Math.max(longest, turnsOfPair(pair));
        }
        return longest;
    }

    public int bestDoorToLock() {
        int latest = turnsToCatch();
        int best = NONE;
        // Once it is never, no other door can make it later.
        for (int door = 0; latest != NEVER && door < house.doorCount; door++) {
            if (!house.locked[door]) {
                int turns = turnsToCatchIfLocked(door);
                if (turns == NEVER || turns > latest) {
                    latest = turns;
                    best = door;
                }
            }
        }
        return best;
    }

    public double meanTurns() {
        int count = 0;
        int sum = 0;
        for (int pair = 0; pair < MOST_ROOMS * MOST_ROOMS; pair++) {
            int turns = turnsOfPair(pair);
            if (turns != NEVER) {
                count++;
                sum += turns;
            }
        }
        return count == 0 ? 0.0 : (double) sum / (double) count;
    }

    public long digest() {
        long d = 2371L;
        d = joined(d, turn());
        d = joined(d, rooms());
        d = joined(d, doors());
        d = joined(d, asNumber(isOn()));
        d = joined(d, asNumber(isCaught()));
        d = joined(d, catIn());
        d = joined(d, mouseIn());
        d = joined(d, eaten());
        d = joined(d, turnsToCatch());
        d = joined(d, safeNow());
        d = joined(d, bestGo());
        d = joined(d, pairsCaught());
        d = joined(d, longestChase());
        d = joined(d, bestDoorToLock());
        d = joinedRooms(d);
        return joinedDoors(d);
    }

    private long joinedRooms(long start) {
        long d = start;
        for (int room = 0; room < house.roomCount; room++) {
            d = joined(d, asNumber(isSafe(room)));
            d = joined(d, cheeseIn(room));
            d = joined(d, doorsOf(room));
            d = joined(d, distance(0, room));
        }
        return d;
    }

    private long joinedDoors(long start) {
        long d = start;
        for (int door = 0; door < house.doorCount; door++) {
            d = joined(d, asNumber(isLocked(door)));
            d = joined(d, asNumber(isOpen(door)));
            d = joined(d, turnsUntilOpen(door));
        }
        return d;
    }

    private static long joined(long d, long x) {
        return d * 31L + x;
    }

    private static long asNumber(boolean isSo) {
        return isSo ? 1L : 0L;
    }

    private void requireRoom(int room) throws IndexOutOfBoundsException {
        if (room < 0 || room >= house.roomCount) {
            throw new IndexOutOfBoundsException("no such room");
        }
    }

    private void requireDoor(int door) throws IndexOutOfBoundsException {
        if (door < 0 || door >= house.doorCount) {
            throw new IndexOutOfBoundsException("no such door");
        }
    }

    private void requireCatsRoom(int room) throws IllegalArgumentException {
        if (house.safe[room]) {
            throw new IllegalArgumentException("the cat is never in a safe room");
        }
    }

    private void requireChase() throws IllegalStateException {
        if (!isGoingOn) {
            throw new IllegalStateException("no chase is on");
        }
    }

    private int phaseAfter(int turns) {
        return Math.floorMod(now + turns, CYCLE);
    }

    private static boolean isCatsPhase(int turn) {
        return (turn & 1) == 1;
    }

    private int whoGoesIn() {
        return isCatsTurn() ? cat : mouse;
    }

    private void moveTo(int room) {
        boolean isMouse = !isCatsTurn();
        if (isMouse) {
            mouse = room;
        } else {
            cat = room;
        }
        if (cat == mouse) {
            endChase();
        } else if (isMouse) {
            eatIn(room);
        }
        now++;
    }

    private void endChase() {
        isGoingOn = false;
        wasCaught = true;
        cat = NONE;
        mouse = NONE;
    }

    private void eatIn(int room) {
        if (house.cheese[room] > 0) {
            house.cheese[room]--;
            cheeseEaten++;
        }
    }

    private int turnsOf(int catsRoom, int mousesRoom) {
        return outlook.turnsToCatchFrom(phaseAfter(0), catsRoom, mousesRoom);
    }

    private int turnsToCatchIfLocked(int door) {
        outlookIfLocked.lookOut(house, door);
        return outlookIfLocked.turnsToCatchFrom(phaseAfter(0), cat, mouse);
    }

    // A pair is told by one number, so that those who walk over all pairs need one loop.
    private int turnsOfPair(int pair) {
        int catsRoom = pair / MOST_ROOMS;
        int mousesRoom = pair % MOST_ROOMS;
        if (catsRoom == mousesRoom || catsRoom >= house.roomCount || mousesRoom >= house.roomCount) {
            return NEVER;
        }
        return turnsOf(catsRoom, mousesRoom);
    }

    private int turnsToReach(int from, int to, boolean isCat) {
        int places = bit(from);
        // With no new room in a whole cycle there never comes one.
        for (int turns = 0; turns <= CYCLE * MOST_ROOMS; turns++) {
            if (holds(places, to)) {
                return turns;
            }
            int phase = phaseAfter(turns);
            if (isCatsPhase(phase) == isCat) {
                places = outlook.spread(phase, places);
            }
        }
        return NEVER;
    }

    private int bestForMouse() {
        int best = mouse;
        int most = NEVER;
        for (int room = 0; room < house.roomCount; room++) {
            if (outlook.canGo(phaseAfter(0), mouse, room)) {
                int turns = outlook.turnsToCatchFrom(phaseAfter(1), cat, room);
                if (turns == NEVER) {
                    return room;
                }
                if (turns > most) {
                    most = turns;
                    best = room;
                }
            }
        }
        return best;
    }

    private int soonestForCat() {
        int best = NONE;
        int fewest = NEVER;
        for (int room = 0; room < house.roomCount; room++) {
            if (outlook.canGo(phaseAfter(0), cat, room)) {
                int turns = outlook.turnsToCatchFrom(phaseAfter(1), room, mouse);
                if (turns != NEVER && (best == NONE || turns < fewest)) {
                    fewest = turns;
                    best = room;
                }
            }
        }
        return best;
    }

    private int nearestForCat() {
        int best = cat;
        int least = MOST_ROOMS + 1;
        for (int room = 0; room < house.roomCount; room++) {
            if (outlook.canGo(phaseAfter(0), cat, room)) {
                int doors = house.doorsFrom(room, mouse);
                int far = doors == NONE ? MOST_ROOMS : doors;
                if (far < least) {
                    least = far;
                    best = room;
                }
            }
        }
        return best;
    }

    // Sets of rooms are kept as bits of an int: eight rooms need no more.
    private static int bit(int room) {
        return 1 << room;
    }

    private static boolean holds(int set, int room) {
        return (set >> room & 1) == 1;
    }

    /** The rooms and the doors; whoever calls has looked at the numbers and limits before. */
    private static final class House {
        int roomCount;
        final boolean[] safe = new boolean[MOST_ROOMS];
        final int[] cheese = new int[MOST_ROOMS];
        int doorCount;
        final int[] firstRoom = new int[MOST_DOORS];
        final int[] secondRoom = new int[MOST_DOORS];
        private final int[] periods = new int[MOST_DOORS];
        private final int[] rests = new int[MOST_DOORS];
        final boolean[] locked = new boolean[MOST_DOORS];

        int makeRoom(boolean isSafeOne) {
            safe[roomCount] = isSafeOne;
            roomCount++;
            return roomCount - 1;
        }

        int makeDoor(int one, int other, int period, int rest) {
            firstRoom[doorCount] = one;
            secondRoom[doorCount] = other;
            periods[doorCount] = period;
            rests[doorCount] = rest;
            doorCount++;
            return doorCount - 1;
        }

        int joining(int one, int other) {
            for (int door = 0; door < doorCount; door++) {
                if (firstRoom[door] == one && secondRoom[door] == other
                        || firstRoom[door] == other && secondRoom[door] == one) {
                    return door;
                }
            }
            return NONE;
        }

        boolean isOpenIn(int door, int phase) {
            if (locked[door]) {
                return false;
            }
            int period = periods[door];
            return period <= 1 || phase % period != rests[door];
        }

        int unlockedDoorsAt(int room) {
            int count = 0;
            for (int door = 0; door < doorCount; door++) {
                if (!locked[door] && (firstRoom[door] == room || secondRoom[door] == room)) {
                    count++;
                }
            }
            return count;
        }

        int doorsFrom(int one, int other) {
            int near = bit(one);
            for (int many = 0; many < MOST_ROOMS; many++) {
                if (holds(near, other)) {
                    return many;
                }
                near = oneDoorFarther(near);
            }
            return NONE;
        }

        private int oneDoorFarther(int near) {
            int far = near;
            for (int door = 0; door < doorCount; door++) {
                int ends = bit(firstRoom[door]) | bit(secondRoom[door]);
                if (!locked[door] && (near & ends) != 0) {
                    far |= ends;
                }
            }
            return far;
        }
    }

    /** Where who goes can go in each phase, and in how many turns the cat surely catches the mouse. */
    private static final class Outlook {
        private static final int PLACES = CYCLE * MOST_ROOMS;
        private static final int STATES = PLACES * MOST_ROOMS;

        // By phase and room: the rooms to which who goes in this phase can go, or stay in.
        private final int[] ways = new int[PLACES];
        // By phase and room of the cat: the rooms of the mouse from which it is surely caught
        // in as many turns as are looked at by now, and in one turn less.
        private final int[] sure = new int[PLACES];
        private final int[] sureBefore = new int[PLACES];
        // By phase, room of the cat and room of the mouse.
        private final int[] turnsOfState = new int[STATES];

        boolean canGo(int phase, int from, int to) {
            return holds(ways[placeOf(phase, from)], to);
        }

        int turnsToCatchFrom(int phase, int catsRoom, int mousesRoom) {
            return turnsOfState[placeOf(phase, catsRoom) * MOST_ROOMS + mousesRoom];
        }

        int spread(int phase, int places) {
            int farther = places;
            for (int room = 0; room < MOST_ROOMS; room++) {
                if (holds(places, room)) {
                    farther |= ways[placeOf(phase, room)];
                }
            }
            return farther;
        }

        /** Looks at a house as if one more door, or none, were locked in it. */
        void lookOut(House house, int lockedToo) {
            layWays(house, lockedToo);
            startInOneRoom(house);
            boolean isMore = true;
            // Each number of turns but the last finds a new state, so there are no more than states.
            for (int turns = 1; isMore && turns <= STATES; turns++) {
                System.arraycopy(sure, 0, sureBefore, 0, PLACES);
                isMore = lookOneTurnFarther(house, turns);
            }
        }

        private void layWays(House house, int lockedToo) {
            for (int phase = 0; phase < CYCLE; phase++) {
                for (int room = 0; room < MOST_ROOMS; room++) {
                    ways[placeOf(phase, room)] = bit(room);
                }
                for (int door = 0; door < house.doorCount; door++) {
                    if (door != lockedToo && house.isOpenIn(door, phase)) {
                        layWay(house, phase, house.firstRoom[door], house.secondRoom[door]);
                        layWay(house, phase, house.secondRoom[door], house.firstRoom[door]);
                    }
                }
            }
        }

        private void layWay(House house, int phase, int from, int to) {
            if (!isCatsPhase(phase) || !house.safe[to]) {
                ways[placeOf(phase, from)] |= bit(to);
            }
        }

        private void startInOneRoom(House house) {
            for (int state = 0; state < STATES; state++) {
                turnsOfState[state] = NEVER;
            }
            for (int phase = 0; phase < CYCLE; phase++) {
                for (int room = 0; room < MOST_ROOMS; room++) {
                    sure[placeOf(phase, room)] = 0;
                    if (room < house.roomCount && !house.safe[room]) {
                        keepSure(phase, room, bit(room), 0);
                    }
                }
            }
        }

        private boolean lookOneTurnFarther(House house, int turns) {
            boolean isMore = false;
            for (int phase = 0; phase < CYCLE; phase++) {
                for (int room = 0; room < house.roomCount; room++) {
                    int mice = isCatsPhase(phase) ? sureIfCatGoes(phase, room)
                            : sureIfMouseGoes(house, phase, room);
                    int newOnes = mice & ~sureBefore[placeOf(phase, room)];
                    if (newOnes != 0 && !house.safe[room]) {
                        keepSure(phase, room, newOnes, turns);
                        isMore = true;
                    }
                }
            }
            return isMore;
        }

        private int sureIfCatGoes(int phase, int catsRoom) {
            int next = phaseBehind(phase);
            int reach = ways[placeOf(phase, catsRoom)];
            int mice = 0;
            for (int room = 0; room < MOST_ROOMS; room++) {
                if (holds(reach, room)) {
                    mice |= sureBefore[placeOf(next, room)];
                }
            }
            return mice;
        }

        private int sureIfMouseGoes(House house, int phase, int catsRoom) {
            int caught = sureBefore[placeOf(phaseBehind(phase), catsRoom)];
            int mice = 0;
            for (int room = 0; room < house.roomCount; room++) {
                if ((ways[placeOf(phase, room)] & ~caught) == 0) {
                    mice |= bit(room);
                }
            }
            return mice;
        }

        private void keepSure(int phase, int catsRoom, int mice, int turns) {
            int place = placeOf(phase, catsRoom);
            sure[place] |= mice;
            for (int room = 0; room < MOST_ROOMS; room++) {
                if (holds(mice, room)) {
                    turnsOfState[place * MOST_ROOMS + room] = turns;
                }
            }
        }

        private static int placeOf(int phase, int room) {
            return phase * MOST_ROOMS + room;
        }

        private static int phaseBehind(int phase) {
            return phase + 1 < CYCLE ? phase + 1 : 0;
        }
    }
}
