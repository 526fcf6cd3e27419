/** Promise 37: digest. */
final class DigestTest {
    private DigestTest() {
    }

    public static void main(String[] args) {
        emptyHouse();
        houseWithoutChase();
        chaseThatGoesOn();
        chaseThatIsOver();
        fullHouseWrapsAround();
        wrapsAroundAsNumbersOf64Bits();
        whatHappensIsToldByIt();
        Due.end("DigestTest");
    }

    private static long joined(long... numbers) {
        long d = 2371;
        for (long x : numbers) {
            d = d * 31 + x;
        }
        return d;
    }

    private static void emptyHouse() {
        Due.is("empty", new DoorChase().digest(),
                joined(0, 0, 0, 0, 0, -1, -1, 0, -1, 0, -1, 0, -1, -1));
    }

    private static void houseWithoutChase() {
        DoorChase x = Houses.withRooms(".s.");
        x.addDoor(0, 1, 2, 0);
        x.putCheese(2, 7);
        Due.is("without a chase", x.digest(),
                joined(0, 3, 1, 0, 0, -1, -1, 0, -1, 0, -1, 0, -1, -1,
                        0, 0, 1, 0, 1, 0, 1, 1, 0, 7, 0, -1,
                        0, 0, 1));
    }

    private static void chaseThatGoesOn() {
        DoorChase x = Houses.row("...");
        x.putCheese(2, 4);
        x.begin(0, 2);
        x.go(2);
        Due.is("going on", x.digest(),
                joined(1, 3, 2, 1, 0, 0, 2, 1, 3, 0, 1, 6, 3, 0,
                        0, 0, 1, 0, 0, 0, 2, 1, 0, 3, 1, 2,
                        0, 1, 0, 0, 1, 0));
    }

    private static void chaseThatIsOver() {
        DoorChase x = Houses.row("..");
        x.begin(0, 1);
        x.play(60);
        x.turnLock(0);
        Due.is("over, its door locked", x.digest(),
                joined(2, 2, 1, 0, 1, -1, -1, 0, -1, 0, -1, 0, -1, -1,
                        0, 0, 0, 0, 0, 0, 0, -1,
                        1, 0, -1));
    }

    private static void fullHouseWrapsAround() {
        DoorChase x = Houses.withRooms("ssssssss");
        long[] numbers = new long[14 + 8 * 4];
        long[] start = {0, 8, 0, 0, 0, -1, -1, 0, -1, 0, -1, 0, -1, -1};
        System.arraycopy(start, 0, numbers, 0, 14);
        for (int room = 0; room < 8; room++) {
            numbers[14 + 4 * room] = 1;
            numbers[17 + 4 * room] = room == 0 ? 0 : -1;
        }
        Due.is("eight rooms", x.digest(), joined(numbers));
        Due.is("eight rooms again", x.digest(), joined(numbers));
    }

    // Worked out apart from any Java, with numbers of any length, and cut to 64 bits at the end.
    private static void wrapsAroundAsNumbersOf64Bits() {
        Due.is("empty", new DoorChase().digest(), -6554011722052653307L);
        DoorChase x = Houses.row("........");
        x.begin(0, 7);
        x.go(7);
        Due.is("a row of eight rooms, on the cat's turn", x.digest(), 3270642880425062295L);
    }

    // Each call changes one of the numbers at least; and what only asks, none.
    private static void whatHappensIsToldByIt() {
        DoorChase x = new DoorChase();
        long d = changed(x, x.digest(), "addRoom 1");
        d = changed(x, d, "addRoom 0");
        d = changed(x, d, "addRoom 0");
        d = changed(x, d, "addDoor 0 1 1 0");
        d = changed(x, d, "addDoor 1 2 2 0");
        d = changed(x, d, "putCheese 2 9");
        d = changed(x, d, "turnLock 0");
        d = changed(x, d, "begin 1 2");
        d = changed(x, d, "go 2");
        d = changed(x, d, "turnLock 1");
        d = changed(x, d, "play 2");
        Due.is("asked once more", x.digest(), d);
    }

    private static long changed(DoorChase x, long before, String call) {
        Runs.made(x, call);
        Due.is("changed by " + call, x.digest() != before, true);
        Due.is("as told, behind " + call, x.digest(), toldBy(x));
        return x.digest();
    }

    private static long toldBy(DoorChase x) {
        long d = joined(x.turn(), x.rooms(), x.doors(), one(x.isOn()), one(x.isCaught()), x.catIn(), x.mouseIn(),
                x.eaten(), x.turnsToCatch(), x.safeNow(), x.bestGo(), x.pairsCaught(), x.longestChase(),
                x.bestDoorToLock());
        for (int room = 0; room < x.rooms(); room++) {
            d = d * 31 + one(x.isSafe(room));
            d = d * 31 + x.cheeseIn(room);
            d = d * 31 + x.doorsOf(room);
            d = d * 31 + x.distance(0, room);
        }
        for (int door = 0; door < x.doors(); door++) {
            d = d * 31 + one(x.isLocked(door));
            d = d * 31 + one(x.isOpen(door));
            d = d * 31 + x.turnsUntilOpen(door);
        }
        return d;
    }

    private static int one(boolean isSo) {
        return isSo ? 1 : 0;
    }
}
