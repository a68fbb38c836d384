/** Promises 20 to 22: digits, and the game of two heaps. */
final class NumerationsTest {
    private static final Class<IllegalArgumentException> ARGUMENT = IllegalArgumentException.class;

    public static void main(String[] args) {
        Morphichall hall = new Morphichall();
        digits(hall);
        digitAt(hall);
        for (char kind : "234f-".toCharArray()) {
            digitsTell(kind);
        }
        isLost(hall);
        lostByMoves();
        Check.end("NumerationsTest");
    }

    private static void digits(Morphichall hall) {
        int[] greatest = {20, 13, 10, 29, 21};
        for (int i = 0; i < 5; i++) {
            char kind = "234f-".charAt(i);
            Check.due("20: digits of 0 by " + kind, hall.digits(kind, 0), 0);
            Check.due("20: digits of 1 by " + kind, hall.digits(kind, 1), 1);
            Check.due("20: digits of 1000000 by " + kind, hall.digits(kind, 1000000), greatest[i]);
            for (int none : new int[] {-1, 1000001, Integer.MIN_VALUE, Integer.MAX_VALUE}) {
                Check.dueThrow("20: " + none + " by " + kind, hall, ARGUMENT, h -> h.digits(kind, none));
            }
        }
        Check.due("20: 2 by -", hall.digits('-', 2), 3);
        Check.due("20: 3 by 3", hall.digits('3', 3), 2);
        Check.due("20: 4 by f", hall.digits('f', 4), 3);
        for (char none : new char[] {'5', '1', '0', 'F', 0, '\uffff', '_', 2, 'g'}) {
            Check.dueThrow("20: by the sign " + (int) none, hall, ARGUMENT, h -> h.digits(none, 1));
        }
        Check.dueThrowLeavesAll("20: digits('5', 1)", Halls::fill, ARGUMENT, h -> h.digits('5', 1));
    }

    private static void digitAt(Morphichall hall) {
        Check.due("21: 100 by f", spelled(hall, 'f', 100), "1000010100");
        Check.due("21: 6 by -", spelled(hall, '-', 6), "11010");
        Check.due("21: 50 by 3", spelled(hall, '3', 50), "1212");
        Check.due("21: 1000000 by 2", spelled(hall, '2', 1000000), "11110100001001000000");
        Check.due("21: 1000000 by 4", spelled(hall, '4', 1000000), "3310021000");
        Check.due("21: 4 by f", spelled(hall, 'f', 4), "101");
        Check.due("21: behind the highest one", hall.digitAt('f', 100, 10), 0);
        Check.due("21: behind one that was longer", hall.digitAt('2', 1, 5), 0);
        Check.due("21: far behind", hall.digitAt('-', 1000000, Integer.MAX_VALUE), 0);
        Check.due("21: of 0", hall.digitAt('4', 0, 0), 0);
        Check.dueThrow("21: a place below 0", hall, ARGUMENT, h -> h.digitAt('2', 5, -1));
        Check.dueThrow("21: the least place", hall, ARGUMENT, h -> h.digitAt('2', 5, Integer.MIN_VALUE));
        Check.dueThrow("21: no such kind", hall, ARGUMENT, h -> h.digitAt('x', 5, 0));
        Check.dueThrow("21: -1", hall, ARGUMENT, h -> h.digitAt('3', -1, 0));
        Check.dueThrow("21: 1000001", hall, ARGUMENT, h -> h.digitAt('3', 1000001, 0));
        Check.dueThrowLeavesAll("21: digitAt('f', 1, -1)", Halls::fill, ARGUMENT, h -> h.digitAt('f', 1, -1));
    }

    private static String spelled(Morphichall hall, char kind, int number) {
        StringBuilder out = new StringBuilder();
        for (int place = hall.digits(kind, number) - 1; place >= 0; place--) {
            out.append(hall.digitAt(kind, number, place));
        }
        return out.toString();
    }

    private static void digitsTell(char kind) {
        for (int number = 0; number <= 1000000; number += number < 50 ? 1 : 39979) {
            Morphichall hall = new Morphichall();
            String text = spelled(hall, kind, number);
            Check.due("21: what " + text + " tells by " + kind, told(kind, text), number);
            Check.due("21: no nought ahead in " + text, text.startsWith("0"), false);
            Check.due("21: neighbours in " + text, kind == 'f' && text.contains("11"), false);
        }
    }

    private static long told(char kind, String text) {
        long before = 1;
        long weight = 1;
        long total = 0;
        for (int place = 0; place < text.length(); place++) {
            total += (text.charAt(text.length() - 1 - place) - '0') * weight;
            long now = weight;
            weight = kind == 'f' ? weight + before : kind == '-' ? -2 * weight : weight * (kind - '0');
            before = now;
        }
        return total;
    }

    private static void isLost(Morphichall hall) {
        int[][] lost = {{0, 0}, {1, 2}, {2, 1}, {3, 5}, {4, 7}, {6, 10}, {8, 13}, {1000, 618}, {618, 1000}};
        for (int[] heaps : lost) {
            Check.due("22: isLost " + heaps[0] + " " + heaps[1], hall.isLost(heaps[0], heaps[1]), true);
        }
        int[][] won = {{0, 1}, {1, 1}, {5, 4}, {1000, 1000}, {1000, 0}, {1000, 619}, {999, 618}};
        for (int[] heaps : won) {
            Check.due("22: isLost " + heaps[0] + " " + heaps[1], hall.isLost(heaps[0], heaps[1]), false);
        }
        for (int none : new int[] {-1, 1001, Integer.MIN_VALUE, Integer.MAX_VALUE}) {
            Check.dueThrow("22: one heap of " + none, hall, ARGUMENT, h -> h.isLost(none, 0));
            Check.dueThrow("22: the other of " + none, hall, ARGUMENT, h -> h.isLost(0, none));
        }
        Check.dueThrowLeavesAll("22: isLost(0, 1001)", Halls::fill, ARGUMENT, h -> h.isLost(0, 1001));
    }

    private static void lostByMoves() {
        boolean[][] lost = new boolean[120][120];
        for (int one = 0; one < 120; one++) {
            Morphichall hall = new Morphichall();
            for (int other = 0; other < 120; other++) {
                boolean canMove = false;
                for (int taken = 1; taken <= Math.max(one, other); taken++) {
                    canMove |= taken <= one && lost[one - taken][other];
                    canMove |= taken <= other && lost[one][other - taken];
                    canMove |= taken <= Math.min(one, other) && lost[one - taken][other - taken];
                }
                lost[one][other] = !canMove;
                Check.due("22: isLost " + one + " " + other, hall.isLost(one, other), !canMove);
            }
        }
    }
}
