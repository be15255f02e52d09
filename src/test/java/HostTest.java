/** Promises 24 to 28: sheets, people by a sheet, people taken for a kind. */
public final class HostTest {
    private static final int MOST = Integer.MAX_VALUE, LEAST = Integer.MIN_VALUE;

    private static TandemKeepsAPlace x;

    public static void main(String[] args) {
        sheet();
        cell();
        copy();
        copyRefuses();
        people();
        peopleRefuses();
        peopleWhenFull();
        taken();
        Check.end();
    }

    private static void due(String call, long got, long want) {
        Check.due(call, got, want);
    }

    private static void twoPeople() {
        x = new TandemKeepsAPlace();
        x.person(0, 0, 0);
        x.person(0, 0, 0);
    }

    /** Two who stay at 0: so a sheet tells how many 0s it begins with (20 at most numbers). */
    private static long zeros(int sheet) {
        return x.tells(sheet, 1, 0, 0);
    }

    private static void sheet() {
        twoPeople();
        due("sheet", x.sheet(0, 0, 3), 1);
        due("3 in it", x.cell(0, 2, 1), 1);
        due("no more", x.cell(0, 3, 1), Check.OUTSIDE);
        due("anew", x.sheet(0, 2, 3), 1);
        due("all 0", zeros(0), -1);
        due("0 in it", x.sheet(0, 1, 0), 1);
        due("none", x.cell(0, 0, 1), Check.OUTSIDE);
        due("40", x.sheet(3, 0, 40), 1);
        due("40 in it", x.cell(3, 39, 1), 1);
        due("41", x.sheet(3, 0, 41), Check.BAD);
        due("below 0", x.sheet(3, 0, -1), Check.NEGATIVE);
        due("it stays", x.cell(3, 39, 1), 1);
        due("sort 3", x.sheet(3, 3, 1), Check.BAD);
        due("sort -2", x.sheet(3, -2, 1), Check.BAD);
        due("sort ahead of a size below 0", x.sheet(3, 3, -1), Check.BAD);
        due("sheet 4", x.sheet(4, 0, 1), Check.BAD);
        due("sheet 4, missing", x.sheet(4, -1, 1), Check.BAD);
        due("sheet below 0", x.sheet(-1, 0, -1), Check.BAD);
        due("missing, n does not matter", x.sheet(3, -1, 41), 1);
        due("missing", x.cell(3, 0, 1), Check.MISSING);
        due("missing again, n below 0", x.sheet(3, -1, -5), 1);
        due("the greatest n", x.sheet(3, 0, MOST), Check.BAD);
        due("the least n", x.sheet(3, 0, LEAST), Check.NEGATIVE);
    }

    private static void cell() {
        twoPeople();
        Check.fill(x, 0, 0, 256, 512 + 1);
        due("of bytes the lowest 8 bits", zeros(0), 1);
        Check.fill(x, 0, 1, 65536, 256);
        due("of shorts the lowest 16 bits", zeros(0), 1);
        Check.fill(x, 0, 2, 0, 65536);
        due("of ints all", zeros(0), 1);
        due("item 2", x.cell(0, 2, 0), Check.OUTSIDE);
        due("item below 0", x.cell(0, -1, 0), Check.OUTSIDE);
        due("missing", x.cell(1, 0, 0), Check.MISSING);
        due("missing ahead of outside", x.cell(1, -1, 0), Check.MISSING);
        due("sheet 4", x.cell(4, 0, 0), Check.BAD);
        due("sheet below 0", x.cell(-1, 0, 0), Check.BAD);
    }

    private static void holds(int sheet, int... items) {
        for (int i = 0; i < items.length; i++) {
            x.sheet(3, 2, 3);
            due("one comes", x.copy(sheet, i, 3, 1, 1), 1);
            due("item " + i + " of sheet " + sheet, numberInTheMidst(), items[i]);
        }
    }

    /** The item in the midst of sheet 3, as the number of one who comes by it and goes again. */
    private static int numberInTheMidst() {
        x.image();
        x.people(3, 2, 0, 1);
        int number = x.told(x.count(0) - 1, 1);
        x.back();
        return number;
    }

    private static void copy() {
        twoPeople();
        Check.fill(x, 0, 2, 1, 2, 3, 4, 5);
        Check.fill(x, 1, 2, 9, 9, 9, 9);
        due("copy", x.copy(0, 1, 1, 2, 2), 2);
        holds(1, 9, 9, 2, 3);
        holds(0, 1, 2, 3, 4, 5);
        due("into itself, onward", x.copy(0, 0, 0, 1, 4), 4);
        holds(0, 1, 1, 2, 3, 4);
        due("into itself, back", x.copy(0, 1, 0, 0, 4), 4);
        holds(0, 1, 2, 3, 4, 4);
        due("none, at the ends", x.copy(0, 5, 1, 4, 0), 0);
        due("all", x.copy(1, 0, 0, 1, 4), 4);
        holds(0, 1, 9, 9, 2, 3);
    }

    private static void copyRefuses() {
        twoPeople();
        Check.fill(x, 0, 2, 1, 2, 3);
        Check.fill(x, 1, 2, 9, 9);
        x.sheet(2, 1, 3);
        due("sheet 4", x.copy(4, 0, 1, 0, 1), Check.BAD);
        due("sheet below 0", x.copy(-1, 0, 1, 0, 1), Check.BAD);
        due("other 4", x.copy(0, 0, 4, 0, 1), Check.BAD);
        due("other below 0", x.copy(0, 0, -1, 0, 1), Check.BAD);
        due("missing", x.copy(3, 0, 1, 0, 1), Check.MISSING);
        due("other missing, ahead of outside", x.copy(0, -1, 3, 0, 1), Check.MISSING);
        due("unlike, ahead of outside", x.copy(0, 0, 2, 0, -1), Check.UNLIKE);
        due("n below 0", x.copy(0, 0, 1, 0, -1), Check.OUTSIDE);
        due("i below 0", x.copy(0, -1, 1, 0, 1), Check.OUTSIDE);
        due("j below 0", x.copy(0, 0, 1, -1, 1), Check.OUTSIDE);
        due("i and n", x.copy(0, 2, 1, 0, 2), Check.OUTSIDE);
        due("j and n", x.copy(0, 0, 1, 1, 2), Check.OUTSIDE);
        due("none, i behind the end", x.copy(0, 4, 1, 0, 0), Check.OUTSIDE);
        due("the greatest n", x.copy(0, 1, 1, 1, MOST), Check.OUTSIDE);
        due("the greatest i", x.copy(0, MOST, 1, 0, 1), Check.OUTSIDE);
        due("the greatest j", x.copy(0, 0, 1, MOST, 1), Check.OUTSIDE);
        due("the least i", x.copy(0, LEAST, 1, LEAST, LEAST), Check.OUTSIDE);
        holds(1, 9, 9);
    }

    private static void people() {
        x = new TandemKeepsAPlace();
        Check.fill(x, 0, 0, 7, 1, 2, 3, 6, 0, 0, 5, 9, 7, 4, 0, 0);
        due("people", x.people(0, 0, 1, 4), 3);
        due("kind", x.told(0, 3) * 100 + x.told(0, 1) * 10 + x.told(0, 2), 123);
        due("kind 6 is left out", x.told(1, 3) * 100 + x.told(1, 1) * 10 + x.told(1, 2), 597);
        due("the last", x.told(2, 3) * 100 + x.told(2, 1) * 10 + x.told(2, 2), 400);
        due("none", x.people(0, 0, 0, 0), 0);
        due("none, from nowhere", x.people(0, 0, -5, 0), 0);
        Check.fill(x, 1, 1, 0, 10, 0, 0, 0, 8, -1, 0, 0, 0, -1, 0, 0, 0, -1);
        due("all are left out", x.people(1, 1, 0, 5), 0);
        Check.fill(x, 1, 0, 256 + 3, 256 + 8, 512 + 7);
        due("of bytes the lowest 8 bits", x.people(1, 0, 0, 1), 1);
        due("such a one", x.told(3, 3) * 100 + x.told(3, 1) * 10 + x.told(3, 2), 387);
    }

    private static void peopleRefuses() {
        x = new TandemKeepsAPlace();
        Check.fill(x, 0, 1, 0, 0, 0, 0, 0, 0, 0, 0);
        due("sheet 4", x.people(4, 1, 0, 1), Check.BAD);
        due("sheet below 0", x.people(-1, 1, 0, 1), Check.BAD);
        due("sort 3", x.people(0, 3, 0, 1), Check.BAD);
        due("sort -1", x.people(0, -1, 0, 1), Check.BAD);
        due("n 7", x.people(0, 1, 0, 7), Check.BAD);
        due("n below 0", x.people(0, 1, 0, -1), Check.BAD);
        due("of another sort", x.people(0, 0, 0, 1), Check.UNLIKE);
        due("of another sort, ahead of outside", x.people(0, 2, 99, 1), Check.UNLIKE);
        due("missing", x.people(1, 0, 0, 1), Check.MISSING);
        due("missing, none of them", x.people(1, 2, -1, 0), Check.MISSING);
        due("from below 0", x.people(0, 1, -1, 1), Check.OUTSIDE);
        due("from the greatest", x.people(0, 1, MOST, 6), Check.OUTSIDE);
        due("from the least", x.people(0, 1, LEAST, 1), Check.OUTSIDE);
        due("nobody came", x.count(0), 0);
        due("three, for which it is too short", x.people(0, 1, 0, 3), Check.OUTSIDE);
        due("what stood ahead came", x.count(0), 2);
        due("one number too short", x.people(0, 1, 6, 1), Check.OUTSIDE);
        due("still two", x.count(0), 2);
        due("to the end", x.people(0, 1, 5, 1), 1);
    }

    private static void peopleWhenFull() {
        x = new TandemKeepsAPlace();
        x.sheet(0, 2, 18);
        due("four", x.people(0, 2, 0, 4), 4);
        due("two more have room", x.people(0, 2, 0, 4), 2);
        due("none has room", x.people(0, 2, 0, 6), 0);
        due("outside all the same", x.people(0, 2, 1, 6), Check.OUTSIDE);
        due("six", x.count(0), 6);
    }

    private static void taken() {
        x = new TandemKeepsAPlace();
        boolean[][] under = {
            {true, false, false, false, false, false},
            {true, true, false, false, false, false},
            {true, false, true, false, false, false},
            {true, true, false, true, false, false},
            {true, false, true, false, true, false},
            {true, false, false, false, false, true}};
        for (int kind = 0; kind < 6; kind++) {
            x.person(kind, kind + 3, 0);
        }
        for (int kind = 0; kind < 6; kind++) {
            for (int k = 0; k < 6; k++) {
                due("kind " + kind + " taken for " + k, x.taken(kind, k), under[kind][k] ? kind + 3 : Check.UNLIKE);
            }
        }
        due("kind 6", x.taken(0, 6), Check.BAD);
        due("kind below 0", x.taken(0, -1), Check.BAD);
        due("kind ahead of nobody", x.taken(6, 6), Check.BAD);
        due("nobody", x.taken(6, 0), Check.MISSING);
        due("below 0", x.taken(-1, 0), Check.MISSING);
    }
}
