import java.util.ArrayList;
import java.util.List;
import java.util.Set;

/**
 * Runs of calls on a new object, told in text, a call a line: its name, its arguments and, behind a '=',
 * the answer that is due. Behind each call that is refused, and each that only asks, it is looked at
 * whether the object answers everything as one on which that call was not made.
 *
 * <p>In place of a call may stand: "rooms ..s" (so many rooms, an 's' a safe one), "row" (a door from
 * each room to the next), "ring" (a row, and a door from the last to the first), "all" (14 doors of
 * eight rooms: 0-1 to 0-7, 1-2 to 1-7, 2-3), "stay N" (who goes stays, N turns long). A row's doors
 * are always open. A due "index", "argument" or "state" is the exception of that name; "4/3" is a
 * division of doubles.
 */
final class Runs {
    private static final Set<String> CHANGING =
            Set.of("addRoom", "addDoor", "turnLock", "putCheese", "begin", "go", "play");

    private final DoorChase x = new DoorChase();
    private final List<String> changes = new ArrayList<>();
    private final String title;

    private Runs(String title) {
        this.title = title;
    }

    /** Makes the calls that show whether a sentence of the document holds. */
    static void holds(String sentence, String calls) {
        Runs run = new Runs(sentence);
        int lines = 0;
        for (String line : calls.split("\n")) {
            lines++;
            run.line(line.trim(), "[" + sentence + "] line " + lines + ": ");
        }
    }

    private void line(String line, String where) {
        String[] parts = line.split(" ", 2);
        switch (parts[0]) {
            case "rooms" -> {
                if (parts.length == 2 && !parts[1].startsWith("=")) {
                    addRooms(parts[1], where);
                } else {
                    call(line, where);
                }
            }
            case "row" -> addRow(where);
            case "ring" -> addRing(where);
            case "all" -> addAll(where);
            case "stay" -> stay(Integer.parseInt(parts[1]), where);
            default -> call(line, where);
        }
    }

    private void addRooms(String kinds, String where) {
        for (int i = 0; i < kinds.length(); i++) {
            call("addRoom " + (kinds.charAt(i) == 's'), where);
        }
    }

    private void addRow(String where) {
        for (int room = 0; room + 1 < x.rooms(); room++) {
            call("addDoor " + room + " " + (room + 1) + " 1 0", where);
        }
    }

    private void addRing(String where) {
        addRow(where);
        call("addDoor " + (x.rooms() - 1) + " 0 1 0", where);
    }

    private void addAll(String where) {
        for (int one = 0; one < 8; one++) {
            for (int other = one + 1; other < 8 && x.doors() < 14; other++) {
                call("addDoor " + one + " " + other + " 1 0 = " + x.doors(), where);
            }
        }
    }

    private void stay(int turns, String where) {
        for (int i = 0; i < turns; i++) {
            call("go " + (x.isCatsTurn() ? x.catIn() : x.mouseIn()) + " = false", where);
        }
    }

    private void call(String line, String where) {
        String[] parts = line.split(" = ");
        String answer = made(x, parts[0]);
        boolean isRefused = answer.startsWith("throws.");
        if (parts.length == 2) {
            Due.is(where + parts[0], answer, due(parts[1]));
        } else {
            Due.is(where + parts[0] + " refused", isRefused, false);
        }
        if (isRefused || !CHANGING.contains(nameOf(line))) {
            changesNothing(parts[0], where);
        } else {
            changes.add(parts[0]);
        }
    }

    private void changesNothing(String call, String where) {
        DoorChase without = again();
        DoorChase with = again();
        made(with, call);
        Due.is(where + call + " changes nothing", Whole.of(with), Whole.of(without));
    }

    private DoorChase again() {
        DoorChase other = new DoorChase();
        for (String change : changes) {
            made(other, change);
        }
        return other;
    }

    private static String nameOf(String call) {
        return call.split(" ")[0];
    }

    /** Makes one call that is told in text, and tells its answer. */
    static String made(DoorChase x, String call) {
        String[] words = call.split(" ");
        int[] arguments = new int[words.length - 1];
        for (int i = 1; i < words.length; i++) {
            arguments[i - 1] = number(words[i]);
        }
        return Calls.answer(x, words[0], arguments);
    }

    private static int number(String word) {
        return switch (word) {
            case "true" -> 1;
            case "false" -> 0;
            case "least" -> Integer.MIN_VALUE;
            case "greatest" -> Integer.MAX_VALUE;
            default -> Integer.parseInt(word);
        };
    }

    private static String due(String told) {
        if (told.contains("/")) {
            String[] parts = told.split("/");
            return String.valueOf(Double.parseDouble(parts[0]) / Double.parseDouble(parts[1]));
        }
        return switch (told) {
            case "index" -> "throws.IndexOutOfBoundsException";
            case "argument" -> "throws.IllegalArgumentException";
            case "state" -> "throws.IllegalStateException";
            default -> told;
        };
    }
}
