/** Promise 37: digest. */
final class DigestTest {
    private DigestTest() {
    }

    public static void main(String[] args) {
        emptyHouse();
        houseWithoutChase();
        chaseThatGoesOn();
        chaseThatIsOver();
        fullHouseWrapsAround();
        Due.end("DigestTest");
    }

    private static long joined(long... numbers) {
        long d = 2371;
        for (long x : numbers) {
            d = d * 31 + x;
        }
        return d;
    }

    private static void emptyHouse() {
        Due.is("empty", new DoorChase().digest(),
                joined(0, 0, 0, 0, 0, -1, -1, 0, -1, 0, -1, 0, -1, -1));
    }

    private static void houseWithoutChase() {
        DoorChase x = Houses.withRooms(".s.");
        x.addDoor(0, 1, 2, 0);
        x.putCheese(2, 7);
        Due.is("without a chase", x.digest(),
                joined(0, 3, 1, 0, 0, -1, -1, 0, -1, 0, -1, 0, -1, -1,
                        0, 0, 1, 0, 1, 0, 1, 1, 0, 7, 0, -1,
                        0, 0, 1));
    }

    private static void chaseThatGoesOn() {
        DoorChase x = Houses.row("...");
        x.putCheese(2, 4);
        x.begin(0, 2);
        x.go(2);
        Due.is("going on", x.digest(),
                joined(1, 3, 2, 1, 0, 0, 2, 1, 3, 0, 1, 6, 3, 0,
                        0, 0, 1, 0, 0, 0, 2, 1, 0, 3, 1, 2,
                        0, 1, 0, 0, 1, 0));
    }

    private static void chaseThatIsOver() {
        DoorChase x = Houses.row("..");
        x.begin(0, 1);
        x.play(60);
        x.turnLock(0);
        Due.is("over, its door locked", x.digest(),
                joined(2, 2, 1, 0, 1, -1, -1, 0, -1, 0, -1, 0, -1, -1,
                        0, 0, 0, 0, 0, 0, 0, -1,
                        1, 0, -1));
    }

    private static void fullHouseWrapsAround() {
        DoorChase x = Houses.withRooms("ssssssss");
        long[] numbers = new long[14 + 8 * 4];
        long[] start = {0, 8, 0, 0, 0, -1, -1, 0, -1, 0, -1, 0, -1, -1};
        System.arraycopy(start, 0, numbers, 0, 14);
        for (int room = 0; room < 8; room++) {
            numbers[14 + 4 * room] = 1;
            numbers[17 + 4 * room] = room == 0 ? 0 : -1;
        }
        Due.is("eight rooms", x.digest(), joined(numbers));
        Due.is("eight rooms again", x.digest(), joined(numbers));
    }
}
