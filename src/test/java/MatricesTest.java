/** Promises 43 to 46: sequences of numbers. */
final class MatricesTest {
    private static final Class<IllegalArgumentException> ARGUMENT = IllegalArgumentException.class;
    private static final Class<IllegalStateException> STATE = IllegalStateException.class;
    private static final Class<IndexOutOfBoundsException> INDEX = IndexOutOfBoundsException.class;
    private static final Class<UnsupportedOperationException> UNSUPPORTED = UnsupportedOperationException.class;

    public static void main(String[] args) {
        regular();
        entry();
        entryOrder();
        added();
        term();
        Check.end("MatricesTest");
    }

    private static void regular() {
        Morphichall hall = new Morphichall();
        for (int i = 0; i < 4; i++) {
            Check.due("43: the one " + i, hall.regular(1 + i % 3), i);
        }
        Check.due("43: all 0 at first", hall.entry(2, '1', 2, 2, 1), 0);
        Check.due("43: its terms", hall.term(2, 12345), 0);
        Check.dueThrow("43: a fifth", hall, STATE, h -> h.regular(1));
        Check.dueThrow("43: a fifth of no rank", hall, ARGUMENT, h -> h.regular(4));
        for (int none : new int[] {0, 4, 6, -1, Integer.MIN_VALUE, Integer.MAX_VALUE}) {
            Check.dueThrowLeavesAll("43: regular(" + none + ")", Halls::fill, ARGUMENT, h -> h.regular(none));
        }
        Check.dueThrowLeavesAll("43: regular(3) with 4", Halls::fillUp, STATE, h -> h.regular(3));
    }

    private static void entry() {
        Morphichall hall = new Morphichall();
        hall.regular(3);
        int value = -9;
        for (char part : "l01r".toCharArray()) {
            for (int row = 0; row < (part == 'l' ? 1 : 3); row++) {
                for (int column = 0; column < (part == 'r' ? 1 : 3); column++) {
                    Check.due("44: entry " + part + row + column, hall.entry(0, part, row, column, value), 0);
                    value = value == 9 ? -9 : value + 1;
                }
            }
        }
        value = -9;
        for (char part : "l01r".toCharArray()) {
            for (int row = 0; row < (part == 'l' ? 1 : 3); row++) {
                for (int column = 0; column < (part == 'r' ? 1 : 3); column++) {
                    Check.due("44: entry again " + part + row + column, hall.entry(0, part, row, column, 0), value);
                    value = value == 9 ? -9 : value + 1;
                }
            }
        }
    }

    private static void entryOrder() {
        Morphichall hall = new Morphichall();
        hall.regular(2);
        Object[][] noPlace = {{'l', 1, 0}, {'l', 0, 2}, {'l', -1, 0}, {'l', 0, -1}, {'0', 2, 0}, {'0', 0, 2},
            {'1', 2, 1}, {'1', 1, -1}, {'r', 2, 0}, {'r', 0, 1}, {'r', -1, 0}, {'x', 2, 0}, {'x', -1, 0},
            {'x', 0, 2}, {'x', 0, -1}, {'l', Integer.MAX_VALUE, 0}, {'r', 0, Integer.MIN_VALUE}};
        for (Object[] told : noPlace) {
            Check.dueThrow("44: no place " + told[0] + told[1] + " " + told[2], hall, INDEX,
                    h -> h.entry(0, (char) told[0], (int) told[1], (int) told[2], 10));
        }
        for (int none : new int[] {-10, 10, Integer.MIN_VALUE, Integer.MAX_VALUE}) {
            Check.dueThrow("44: the number " + none, hall, ARGUMENT, h -> h.entry(0, 'l', 0, 0, none));
        }
        for (char none : new char[] {'x', '2', 'L', 0, '\uffff', 0x131}) {
            Check.dueThrow("44: no part " + (int) none, hall, ARGUMENT, h -> h.entry(0, none, 1, 1, 0));
        }
        Check.dueThrow("44: no such sequence of numbers", hall, INDEX, h -> h.entry(1, 'x', 9, 9, 10));
        Check.dueThrow("44: one below 0", hall, INDEX, h -> h.entry(-1, 'l', 0, 0, 0));
        Check.dueThrowLeavesAll("44: no row", Halls::fill, INDEX, h -> h.entry(0, 'l', 1, 0, 5));
        Check.dueThrowLeavesAll("44: no number", Halls::fill, ARGUMENT, h -> h.entry(0, 'l', 0, 0, 10));
        Check.dueThrowLeavesAll("44: no part", Halls::fill, ARGUMENT, h -> h.entry(0, '2', 0, 0, 5));
    }

    /** The terms are the place itself: the row 0 1, the matrix 2 0, d 1 for the digit d, and the column 1 0. */
    private static void makePlaces(Morphichall hall) {
        int number = hall.regular(2);
        hall.entry(number, 'l', 0, 1, 1);
        hall.entry(number, 'r', 0, 0, 1);
        for (char part : "01".toCharArray()) {
            hall.entry(number, part, 0, 0, 2);
            hall.entry(number, part, 1, 0, part - '0');
            hall.entry(number, part, 1, 1, 1);
        }
    }

    /** The terms are how many ones the place has, and the row may be any number of times that. */
    private static void makeOnes(Morphichall hall, int times) {
        int number = hall.regular(3);
        hall.entry(number, 'l', 0, 2, times);
        hall.entry(number, 'r', 1, 0, 1);
        for (int i = 0; i < 3; i++) {
            hall.entry(number, '0', i, i, 1);
            hall.entry(number, '1', i, i, 1);
        }
        hall.entry(number, '1', 2, 1, 1);
    }

    private static void added() {
        Morphichall hall = new Morphichall();
        makePlaces(hall);
        makeOnes(hall, 3);
        Check.due("45: added", hall.added(0, 1), 2);
        for (int place : new int[] {0, 1, 2, 3, 6, 1000, 999999999, 1000000000}) {
            Check.due("45: the sum at " + place, hall.term(2, place), place + 3L * Integer.bitCount(place));
        }
        Check.dueThrow("45: 5 and 2 together", hall, UNSUPPORTED, h -> h.added(2, 0));
        Check.due("45: a rank of 5", hall.entry(2, '1', 4, 3, 1), 1);
        Check.due("45: the one itself stays", hall.entry(1, '1', 2, 1, 1), 1);
        Check.dueThrow("45: no row 5", hall, INDEX, h -> h.entry(2, '1', 5, 0, 1));
        hall.entry(1, 'l', 0, 2, 5);
        Check.due("45: as they were then", hall.term(2, 7), 7 + 3 * 3);
        Check.due("45: twice the same, of rank 6", hall.added(1, 1), 3);
        Check.due("45: twice the same", hall.term(3, 7), 2 * 5 * 3);
        Check.due("45: a number of rank 6", hall.entry(3, '0', 5, 5, -9), 1);
        Check.due("45: noughts where they meet", hall.entry(3, '0', 2, 3, 9), 0);
        Check.due("45: the column of the other one", hall.entry(3, 'r', 4, 0, 2), 1);
        Check.dueThrow("45: a fifth", hall, STATE, h -> h.added(0, 0));
        Check.dueThrow("45: a fifth of rank 7", hall, UNSUPPORTED, h -> h.added(0, 2));
        Check.dueThrow("45: no one", hall, INDEX, h -> h.added(4, 0));
        Check.dueThrow("45: no other one", hall, INDEX, h -> h.added(0, -1));
        Check.dueThrowLeavesAll("45: no other one, all stays", Halls::fill, INDEX, h -> h.added(0, 1));
        Check.dueThrowLeavesAll("45: the rank, all stays", h -> {
            Halls.fill(h);
            h.regular(3);
            h.added(0, 1);
        }, UNSUPPORTED, h -> h.added(2, 0));
        Check.dueThrowLeavesAll("45: with 4, all stays", Halls::fillUp, STATE, h -> h.added(2, 2));
        Check.dueThrowLeavesAll("45: no one, with 4", Halls::fillUp, INDEX, h -> h.added(2, 4));
    }

    private static void term() {
        Morphichall hall = new Morphichall();
        makePlaces(hall);
        for (int place : new int[] {0, 1, 2, 3, 4, 5, 6, 1023, 1024, 999999999, 1000000000}) {
            Check.due("46: the place " + place, hall.term(0, place), place);
        }
        hall.regular(1);
        hall.entry(1, 'l', 0, 0, 9);
        hall.entry(1, 'r', 0, 0, -9);
        hall.entry(1, '1', 0, 0, 9);
        hall.entry(1, '0', 0, 0, 9);
        long due = -81;
        for (int i = 0; i < 30; i++) {
            due *= 9;
        }
        Check.due("46: as longs go round", hall.term(1, 1000000000), due);
        Check.due("46: no digits for 0", hall.term(1, 0), -81);
        hall.entry(1, '0', 0, 0, 0);
        Check.due("46: no noughts ahead", hall.term(1, 1), -729);
        Check.due("46: a nought behind", hall.term(1, 2), 0);
        hall.regular(2);
        hall.entry(2, 'l', 0, 0, 1);
        hall.entry(2, '1', 0, 1, 1);
        hall.entry(2, '0', 1, 0, 5);
        hall.entry(2, 'r', 0, 0, 1);
        Check.due("46: the highest one first", hall.term(2, 2), 5);
        Check.due("46: not the lowest one first", hall.term(2, 4), 0);
        Check.due("46: and again", hall.term(2, 10), 25);
        for (int none : new int[] {-1, 1000000001, Integer.MIN_VALUE, Integer.MAX_VALUE}) {
            Check.dueThrow("46: term of " + none, hall, ARGUMENT, h -> h.term(0, none));
        }
        Check.dueThrow("46: no such sequence of numbers first", hall, INDEX, h -> h.term(3, -1));
        Check.dueThrowLeavesAll("46: term(0, -1)", Halls::fill, ARGUMENT, h -> h.term(0, -1));
        Check.dueThrowLeavesAll("46: term(-1, 0)", Halls::fill, INDEX, h -> h.term(-1, 0));
    }
}
