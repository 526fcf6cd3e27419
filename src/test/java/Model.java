import java.util.ArrayList;
import java.util.List;

/**
 * The document once more, as plainly as can be: every turn is looked at by its own number, and what
 * the cat surely catches is worked out backwards from a turn so far ahead that no chase is longer.
 */
final class Model {
    // 12 phases of 56 pairs of rooms: a longest chase goes through no phase and pair twice.
    private static final int AHEAD = 12 * 56 + 1;
    private static final int NEVER = Integer.MAX_VALUE;

    private record Door(int one, int other, int period, int rest) {
        boolean joins(int a, int b) {
            return one == a && other == b || one == b && other == a;
        }
    }

    private final List<Boolean> safe = new ArrayList<>();
    private final List<Integer> cheese = new ArrayList<>();
    private final List<Door> doors = new ArrayList<>();
    private final List<Boolean> locked = new ArrayList<>();
    private int turn = 0;
    private boolean on = false;
    private boolean caught = false;
    private int cat = -1;
    private int mouse = -1;
    private int eaten = 0;

    int addRoom(boolean isSafe) {
        if (safe.size() == 8) {
            throw new IllegalStateException();
        }
        safe.add(isSafe);
        cheese.add(0);
        return safe.size() - 1;
    }

    int addDoor(int one, int other, int period, int rest) {
        room(one);
        room(other);
        if (one == other || period < 1 || period > 4 || rest < 0 || rest > period - 1) {
            throw new IllegalArgumentException();
        }
        if (doors.size() == 14 || doorBetween(one, other) >= 0) {
            throw new IllegalStateException();
        }
        doors.add(new Door(one, other, period, rest));
        locked.add(false);
        return doors.size() - 1;
    }

    boolean turnLock(int door) {
        door(door);
        locked.set(door, !locked.get(door));
        return locked.get(door);
    }

    int putCheese(int room, int many) {
        room(room);
        if (many < 1 || many > 9) {
            throw new IllegalArgumentException();
        }
        if (cheese.get(room) + many > 9) {
            throw new IllegalStateException();
        }
        cheese.set(room, cheese.get(room) + many);
        return cheese.get(room);
    }

    int begin(int newCat, int newMouse) {
        room(newCat);
        room(newMouse);
        if (newCat == newMouse || safe.get(newCat)) {
            throw new IllegalArgumentException();
        }
        cat = newCat;
        mouse = newMouse;
        on = true;
        caught = false;
        turn = 0;
        eaten = 0;
        return turnsToCatch();
    }

    boolean go(int room) {
        room(room);
        chase();
        if (!canGo(isCatsTurn() ? cat : mouse, room, turn)) {
            throw new IllegalStateException();
        }
        if (isCatsTurn()) {
            cat = room;
        } else {
            mouse = room;
        }
        if (cat == mouse) {
            on = false;
            caught = true;
        } else if (!isCatsTurn() && cheese.get(room) > 0) {
            cheese.set(room, cheese.get(room) - 1);
            eaten++;
        }
        turn++;
        return caught;
    }

    int play(int most) {
        if (most < 1 || most > 60) {
            throw new IllegalArgumentException();
        }
        chase();
        int played = 0;
        while (on && played < most) {
            go(bestGo());
            played++;
        }
        return played;
    }

    int turn() {
        return turn;
    }

    int rooms() {
        return safe.size();
    }

    int doors() {
        return doors.size();
    }

    boolean isOn() {
        return on;
    }

    boolean isCaught() {
        return caught;
    }

    boolean isCatsTurn() {
        return turn % 2 == 1;
    }

    int catIn() {
        return on ? cat : -1;
    }

    int mouseIn() {
        return on ? mouse : -1;
    }

    int eaten() {
        return eaten;
    }

    boolean isSafe(int room) {
        room(room);
        return safe.get(room);
    }

    int cheeseIn(int room) {
        room(room);
        return cheese.get(room);
    }

    int doorsOf(int room) {
        room(room);
        int many = 0;
        for (int other = 0; other < rooms(); other++) {
            int door = doorBetween(room, other);
            many += door >= 0 && !locked.get(door) ? 1 : 0;
        }
        return many;
    }

    boolean isLocked(int door) {
        door(door);
        return locked.get(door);
    }

    boolean isOpen(int door) {
        door(door);
        return isOpenIn(door, turn);
    }

    int turnsUntilOpen(int door) {
        door(door);
        if (locked.get(door)) {
            return -1;
        }
        int turns = 0;
        while (!isOpenIn(door, turn + turns)) {
            turns++;
        }
        return turns;
    }

    int doorBetween(int one, int other) {
        room(one);
        room(other);
        for (int door = 0; door < doors.size(); door++) {
            if (doors.get(door).joins(one, other)) {
                return door;
            }
        }
        return -1;
    }

    boolean isWayOpen(int one, int other) {
        int door = doorBetween(one, other);
        return door >= 0 && isOpenIn(door, turn);
    }

    // All distances at once, by Floyd's way.
    int distance(int one, int other) {
        room(one);
        room(other);
        int n = rooms();
        int[][] far = new int[n][n];
        for (int a = 0; a < n; a++) {
            for (int b = 0; b < n; b++) {
                int door = doorBetween(a, b);
                far[a][b] = a == b ? 0 : door >= 0 && !locked.get(door) ? 1 : 1000;
            }
        }
        for (int via = 0; via < n; via++) {
            for (int a = 0; a < n; a++) {
                for (int b = 0; b < n; b++) {
                    far[a][b] = Math.min(far[a][b], far[a][via] + far[via][b]);
                }
            }
        }
        return far[one][other] >= 1000 ? -1 : far[one][other];
    }

    int catArrives(int room) {
        room(room);
        chase();
        return arrives(cat, room, 1);
    }

    int mouseArrives(int room) {
        room(room);
        chase();
        return arrives(mouse, room, 0);
    }

    int turnsToCatch() {
        return on ? told(turnsFromEach(turn)[cat][mouse]) : -1;
    }

    int turnsFrom(int catsRoom, int mousesRoom) {
        room(catsRoom);
        room(mousesRoom);
        if (safe.get(catsRoom)) {
            throw new IllegalArgumentException();
        }
        return told(turnsFromEach(turn)[catsRoom][mousesRoom]);
    }

    int safeNow() {
        int many = 0;
        if (on) {
            for (int turns : turnsFromEach(turn)[cat]) {
                many += turns == NEVER ? 1 : 0;
            }
        }
        return many;
    }

    int bestGo() {
        if (!on) {
            return -1;
        }
        int[][] then = turnsFromEach(turn + 1);
        int from = isCatsTurn() ? cat : mouse;
        int best = -1;
        int worth = 0;
        for (int room = 0; room < rooms(); room++) {
            if (canGo(from, room, turn)) {
                int itsWorth = isCatsTurn() ? worthToCat(then, room) : then[cat][room];
                if (best < 0 || itsWorth > worth) {
                    best = room;
                    worth = itsWorth;
                }
            }
        }
        return best;
    }

    private int worthToCat(int[][] then, int room) {
        if (then[room][mouse] != NEVER) {
            return -then[room][mouse];
        }
        int distance = distance(room, mouse);
        return -1000000 - (distance < 0 ? 1000 : distance);
    }

    int pairsCaught() {
        return pairs().size();
    }

    int longestChase() {
        int longest = -1;
        for (int turns : pairs()) {
            longest = Math.max(longest, turns);
        }
        return longest;
    }

    int bestDoorToLock() {
        if (!on) {
            return -1;
        }
        int latest = turnsFromEach(turn)[cat][mouse];
        int best = -1;
        for (int door = 0; door < doors.size(); door++) {
            if (!locked.get(door)) {
                locked.set(door, true);
                int turns = turnsFromEach(turn)[cat][mouse];
                locked.set(door, false);
                if (turns > latest) {
                    latest = turns;
                    best = door;
                }
            }
        }
        return best;
    }

    double meanTurns() {
        double sum = 0;
        for (int turns : pairs()) {
            sum += turns;
        }
        return pairs().isEmpty() ? 0 : sum / pairs().size();
    }

    long digest() {
        List<Long> all = new ArrayList<>();
        for (int x : new int[] {turn, rooms(), doors(), on ? 1 : 0, caught ? 1 : 0, catIn(), mouseIn(), eaten,
            turnsToCatch(), safeNow(), bestGo(), pairsCaught(), longestChase(), bestDoorToLock()}) {
            all.add((long) x);
        }
        for (int room = 0; room < rooms(); room++) {
            all.add(safe.get(room) ? 1L : 0L);
            all.add((long) cheese.get(room));
            all.add((long) doorsOf(room));
            all.add((long) distance(0, room));
        }
        for (int door = 0; door < doors(); door++) {
            all.add(locked.get(door) ? 1L : 0L);
            all.add(isOpen(door) ? 1L : 0L);
            all.add((long) turnsUntilOpen(door));
        }
        long d = 2371;
        for (long x : all) {
            d = d * 31 + x;
        }
        return d;
    }

    private void room(int room) {
        if (room < 0 || room >= safe.size()) {
            throw new IndexOutOfBoundsException();
        }
    }

    private void door(int door) {
        if (door < 0 || door >= doors.size()) {
            throw new IndexOutOfBoundsException();
        }
    }

    private void chase() {
        if (!on) {
            throw new IllegalStateException();
        }
    }

    private boolean isOpenIn(int door, int when) {
        Door one = doors.get(door);
        return !locked.get(door) && (one.period == 1 || when % one.period != one.rest);
    }

    private boolean canGo(int from, int to, int when) {
        if (from == to) {
            return true;
        }
        if (when % 2 == 1 && safe.get(to)) {
            return false;
        }
        int door = doorBetween(from, to);
        return door >= 0 && isOpenIn(door, when);
    }

    private int arrives(int from, int to, int parity) {
        List<Integer> there = new ArrayList<>(List.of(from));
        for (int turns = 0; turns < 1000; turns++) {
            if (there.contains(to)) {
                return turns;
            }
            List<Integer> next = new ArrayList<>(there);
            for (int room = 0; room < rooms(); room++) {
                for (int place : there) {
                    if ((turn + turns) % 2 == parity && canGo(place, room, turn + turns) && !next.contains(room)) {
                        next.add(room);
                    }
                }
            }
            there = next;
        }
        return -1;
    }

    private List<Integer> pairs() {
        List<Integer> turns = new ArrayList<>();
        int[][] from = turnsFromEach(turn);
        for (int a = 0; a < rooms(); a++) {
            for (int b = 0; b < rooms(); b++) {
                if (a != b && !safe.get(a) && from[a][b] != NEVER) {
                    turns.add(from[a][b]);
                }
            }
        }
        return turns;
    }

    private static int told(int turns) {
        return turns == NEVER ? -1 : turns;
    }

    // By room of the cat and room of the mouse; that of the cat may be any, but only from
    // those that are not safe does a row mean something.
    private int[][] turnsFromEach(int start) {
        int n = rooms();
        int[][] later = new int[n][n];
        for (int a = 0; a < n; a++) {
            for (int b = 0; b < n; b++) {
                later[a][b] = a == b ? 0 : NEVER;
            }
        }
        for (int when = start + AHEAD - 1; when >= start; when--) {
            later = oneTurnBefore(later, when);
        }
        return later;
    }

    private int[][] oneTurnBefore(int[][] later, int when) {
        int n = rooms();
        boolean[][] ways = new boolean[n][n];
        for (int a = 0; a < n; a++) {
            for (int b = 0; b < n; b++) {
                ways[a][b] = canGo(a, b, when);
            }
        }
        int[][] now = new int[n][n];
        for (int a = 0; a < n; a++) {
            for (int b = 0; b < n; b++) {
                int turns = a == b ? 0 : when % 2 == 1 ? fewest(later, ways[a], b) : most(later[a], ways[b]);
                now[a][b] = turns == NEVER || a == b ? turns : turns + 1;
            }
        }
        return now;
    }

    private static int fewest(int[][] later, boolean[] ways, int mousesRoom) {
        int fewest = NEVER;
        for (int room = 0; room < ways.length; room++) {
            fewest = ways[room] ? Math.min(fewest, later[room][mousesRoom]) : fewest;
        }
        return fewest;
    }

    private static int most(int[] later, boolean[] ways) {
        int most = 0;
        for (int room = 0; room < ways.length; room++) {
            most = ways[room] ? Math.max(most, later[room]) : most;
        }
        return most;
    }
}
