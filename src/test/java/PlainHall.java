import java.util.ArrayList;
import java.util.Arrays;
import java.util.HashMap;
import java.util.HashSet;
import java.util.LinkedHashMap;
import java.util.List;
import java.util.Map;
import java.util.NoSuchElementException;
import java.util.Set;
import java.util.TreeSet;
import java.util.regex.Pattern;

/**
 * The same hall told a second time, by texts, sets and maps of the Java library and by other ways wherever
 * there are some; slow, and only there to be compared with.
 */
final class PlainHall {
    private String word = "";
    private final List<String[]> morphisms = new ArrayList<>();
    private final List<Integer> slopeRow = new ArrayList<>();
    private final List<Line> lines = new ArrayList<>();
    private final List<Dfa> stack = new ArrayList<>();
    /** With more states on the way a formula is refused; a test may lift it, to see how many there are. */
    int most = 200;
    /** How many pairs or sets there were on the last way. */
    int met;
    private final List<Table> tables = new ArrayList<>();
    private final char[] commands = {'-', '-', '-', '-'};
    private static final Map<String, Integer> AVOIDERS = new HashMap<>();
    private static boolean[][] lost;

    /** A sequence: a text, or arrows[state][digit] and letters. */
    private static final class Line {
        String text;
        int base;
        int[][] arrows;
        char[] letters;

        char at(int place) {
            if (text != null) {
                return text.charAt(place);
            }
            int state = 0;
            if (place > 0) {
                for (char digit : Integer.toString(place, base).toCharArray()) {
                    state = arrows[state][digit - '0'];
                }
            }
            return letters[state];
        }

        String first(int places) {
            StringBuilder out = new StringBuilder();
            for (int i = 0; i < places; i++) {
                out.append(at(i));
            }
            return out.toString();
        }
    }

    private static final class Table {
        int rank;
        long[] row;
        long[][][] matrices;
        long[] column;

        Table(int rank) {
            this.rank = rank;
            row = new long[rank];
            column = new long[rank];
            matrices = new long[2][rank][rank];
        }
    }

    /** Always over all five variables; what it was built of is kept to be asked without automata. */
    private static final class Dfa {
        int mask;
        int[][] next;
        boolean[] good;
        Test test;
    }

    private interface Test {
        boolean on(int[] numbers);
    }

    int type(char letter) {
        if ("abcd".indexOf(letter) < 0) {
            throw new IllegalArgumentException();
        }
        if (word.length() == 40) {
            throw new IllegalStateException();
        }
        word += letter;
        return word.length();
    }

    int wipe() {
        int had = word.length();
        word = "";
        return had;
    }

    int morphism(int letters) {
        if (letters < 2 || letters > 4) {
            throw new IllegalArgumentException();
        }
        if (morphisms.size() == 6) {
            throw new IllegalStateException();
        }
        morphisms.add(Arrays.copyOf(new String[] {"a", "b", "c", "d"}, letters));
        return morphisms.size() - 1;
    }

    private static <T> T pick(List<T> list, int number) {
        if (number < 0 || number >= list.size()) {
            throw new IndexOutOfBoundsException();
        }
        return list.get(number);
    }

    private static String alphabet(String[] images) {
        return "abcd".substring(0, images.length);
    }

    int setImage(int morphism, char letter) {
        String[] images = pick(morphisms, morphism);
        String own = alphabet(images);
        if (own.indexOf(letter) < 0 || !word.matches("[" + own + "]{1,6}")) {
            throw new IllegalArgumentException();
        }
        images[letter - 'a'] = word;
        return word.length();
    }

    int uniform(int morphism) {
        Set<Integer> lengths = new HashSet<>();
        for (String image : pick(morphisms, morphism)) {
            lengths.add(image.length());
        }
        return lengths.size() == 1 ? lengths.iterator().next() : 0;
    }

    private static String letterSet(String[] images, String letters) {
        Set<Character> found = new TreeSet<>();
        for (char c : letters.toCharArray()) {
            for (char d : images[c - 'a'].toCharArray()) {
                found.add(d);
            }
        }
        StringBuilder out = new StringBuilder();
        found.forEach(out::append);
        return out.toString();
    }

    boolean isPrimitive(int morphism) {
        String[] images = pick(morphisms, morphism);
        String own = alphabet(images);
        for (int times = 1; times <= 16; times++) {
            boolean all = true;
            for (char letter : own.toCharArray()) {
                String reached = "" + letter;
                for (int i = 0; i < times; i++) {
                    reached = letterSet(images, reached);
                }
                all &= reached.equals(own);
            }
            if (all) {
                return true;
            }
        }
        return false;
    }

    long grown(int morphism, char letter, int times) {
        String[] images = pick(morphisms, morphism);
        if (alphabet(images).indexOf(letter) < 0 || times < 0 || times > 20) {
            throw new IllegalArgumentException();
        }
        long[] counts = new long[images.length];
        counts[letter - 'a'] = 1;
        for (int i = 0; i < times; i++) {
            long[] later = new long[images.length];
            for (int c = 0; c < counts.length; c++) {
                for (char d : images[c].toCharArray()) {
                    later[d - 'a'] += counts[c];
                }
            }
            counts = later;
        }
        return Arrays.stream(counts).sum();
    }

    private int addLine(Line line) {
        lines.add(line);
        return lines.size() - 1;
    }

    private void needRoomForLine() {
        if (lines.size() == 8) {
            throw new IllegalStateException();
        }
    }

    int fixed(int morphism) {
        String[] images = pick(morphisms, morphism);
        if (!images[0].startsWith("a") || images[0].length() < 2) {
            throw new UnsupportedOperationException();
        }
        needRoomForLine();
        String grown = "a";
        while (grown.length() < 1024) {
            StringBuilder later = new StringBuilder();
            for (char c : grown.toCharArray()) {
                later.append(images[c - 'a']);
            }
            grown = later.toString();
        }
        Line line = new Line();
        line.text = grown.substring(0, 1024);
        return addLine(line);
    }

    int slopeNumber(int number) {
        if (number < 1 || number > 9) {
            throw new IllegalArgumentException();
        }
        if (slopeRow.size() == 8) {
            throw new IllegalStateException();
        }
        slopeRow.add(number);
        return slopeRow.size();
    }

    int slope() {
        if (slopeRow.isEmpty()) {
            throw new UnsupportedOperationException();
        }
        needRoomForLine();
        String before = "b";
        String last = "a";
        for (int i = 0; last.length() < 1024; i++) {
            String later = last.repeat(slopeRow.get(i % slopeRow.size())) + before;
            before = last;
            last = later;
        }
        slopeRow.clear();
        Line line = new Line();
        line.text = last.substring(0, 1024);
        return addLine(line);
    }

    int automaton(int base, int states) {
        if (base < 2 || base > 4 || states < 1 || states > 8) {
            throw new IllegalArgumentException();
        }
        needRoomForLine();
        Line line = new Line();
        line.base = base;
        line.letters = new char[states];
        Arrays.fill(line.letters, 'a');
        line.arrows = new int[states][base];
        for (int state = 0; state < states; state++) {
            Arrays.fill(line.arrows[state], state);
        }
        return addLine(line);
    }

    int automatonOf(int morphism) {
        int length = uniform(morphism);
        if (length < 2 || length > 4) {
            throw new UnsupportedOperationException();
        }
        String[] images = morphisms.get(morphism);
        int number = automaton(length, images.length);
        Line line = lines.get(number);
        for (int state = 0; state < images.length; state++) {
            line.letters[state] = (char) ('a' + state);
            for (int digit = 0; digit < length; digit++) {
                line.arrows[state][digit] = images[state].charAt(digit) - 'a';
            }
        }
        return number;
    }

    private Line automatonLine(int sequence) {
        Line line = pick(lines, sequence);
        if (line.text != null) {
            throw new UnsupportedOperationException();
        }
        return line;
    }

    int arrow(int sequence, int state, int digit, int to) {
        Line line = automatonLine(sequence);
        int states = line.letters.length;
        if (state < 0 || state >= states || to < 0 || to >= states || digit < 0 || digit >= line.base) {
            throw new IllegalArgumentException();
        }
        int before = line.arrows[state][digit];
        line.arrows[state][digit] = to;
        return before;
    }

    char give(int sequence, int state, char letter) {
        Line line = automatonLine(sequence);
        if (state < 0 || state >= line.letters.length || "abcd".indexOf(letter) < 0) {
            throw new IllegalArgumentException();
        }
        char before = line.letters[state];
        line.letters[state] = letter;
        return before;
    }

    int sequences() {
        return lines.size();
    }

    char letterAt(int sequence, int place) {
        Line line = pick(lines, sequence);
        if (place < 0 || place > (line.text != null ? 1023 : 2000000000)) {
            throw new IllegalArgumentException();
        }
        return line.at(place);
    }

    /** States are unlike if some row of digits, of at most as many as there are states, tells them apart. */
    int least(int sequence) {
        Line line = automatonLine(sequence);
        Set<Integer> met = new TreeSet<>(Set.of(0));
        List<Integer> queue = new ArrayList<>(met);
        for (int i = 0; i < queue.size(); i++) {
            for (int to : line.arrows[queue.get(i)]) {
                if (met.add(to)) {
                    queue.add(to);
                }
            }
        }
        boolean[][] unlike = new boolean[line.letters.length][line.letters.length];
        for (int round = 0; round < 80; round++) {
            for (int p : met) {
                for (int q : met) {
                    unlike[p][q] |= line.letters[p] != line.letters[q];
                    for (int digit = 0; digit < line.base; digit++) {
                        unlike[p][q] |= unlike[line.arrows[p][digit]][line.arrows[q][digit]];
                    }
                }
            }
        }
        int found = 0;
        for (int p : met) {
            boolean isFirst = true;
            for (int q : met) {
                isFirst &= q >= p || unlike[p][q];
            }
            found += isFirst ? 1 : 0;
        }
        return found;
    }

    int kernel(int sequence, int depth) {
        Line line = automatonLine(sequence);
        if (depth < 0 || depth > 4) {
            throw new IllegalArgumentException();
        }
        Set<String> found = new HashSet<>();
        int power = 1;
        for (int e = 0; e <= depth; e++) {
            for (int rest = 0; rest < power; rest++) {
                StringBuilder out = new StringBuilder();
                for (int n = 0; n < 32; n++) {
                    out.append(line.at(n * power + rest));
                }
                found.add(out.toString());
            }
            power *= line.base;
        }
        return found.size();
    }

    private static String spelled(char kind, int number) {
        if ("234f-".indexOf(kind) < 0 || number < 0 || number > 1000000) {
            throw new IllegalArgumentException();
        }
        if (number == 0) {
            return "";
        }
        if (kind == '-') {
            return negative(number);
        }
        return kind == 'f' ? golden(number) : Integer.toString(number, kind - '0');
    }

    private static String negative(int number) {
        if (number == 0) {
            return "";
        }
        int digit = Math.floorMod(number, 2);
        return negative((number - digit) / -2) + digit;
    }

    private static String golden(int number) {
        List<Integer> row = new ArrayList<>(List.of(1, 2));
        while (row.get(row.size() - 1) <= number) {
            row.add(row.get(row.size() - 1) + row.get(row.size() - 2));
        }
        StringBuilder out = new StringBuilder();
        int rest = number;
        for (int i = row.size() - 1; i >= 0; i--) {
            out.append(row.get(i) <= rest ? '1' : '0');
            rest -= row.get(i) <= rest ? row.get(i) : 0;
        }
        return out.toString().replaceFirst("^0+", "");
    }

    int digits(char kind, int number) {
        return spelled(kind, number).length();
    }

    int digitAt(char kind, int number, int place) {
        String text = spelled(kind, number);
        if (place < 0) {
            throw new IllegalArgumentException();
        }
        return place < text.length() ? text.charAt(text.length() - 1 - place) - '0' : 0;
    }

    /** By the moves themselves, from the smallest heaps on. */
    boolean isLost(int one, int other) {
        if (one < 0 || other < 0 || one > 1000 || other > 1000) {
            throw new IllegalArgumentException();
        }
        if (lost == null) {
            lost = new boolean[1001][1001];
            boolean[] inRow = new boolean[1001];
            boolean[] inColumn = new boolean[1001];
            boolean[] inDiagonal = new boolean[2001];
            for (int i = 0; i <= 1000; i++) {
                for (int j = 0; j <= 1000; j++) {
                    if (!inRow[i] && !inColumn[j] && !inDiagonal[i - j + 1000]) {
                        lost[i][j] = true;
                        inRow[i] = true;
                        inColumn[j] = true;
                        inDiagonal[i - j + 1000] = true;
                    }
                }
            }
        }
        return lost[one][other];
    }

    private static void needVariables(int... xs) {
        for (int x : xs) {
            if (x < 0 || x > 4) {
                throw new IllegalArgumentException();
            }
        }
    }

    private void needRoomForFormula() {
        if (stack.size() == 6) {
            throw new IllegalStateException();
        }
    }

    private void needFormulas(int count) {
        if (stack.size() < count) {
            throw new NoSuchElementException();
        }
    }

    private Dfa top() {
        return stack.get(stack.size() - 1);
    }

    private interface Step {
        String from(String state, int[] bits);
    }

    private interface Good {
        boolean is(String state);
    }

    private static int[] bits(int sign) {
        int[] out = new int[5];
        for (int x = 0; x < 5; x++) {
            out[x] = sign >> x & 1;
        }
        return out;
    }

    /** Walks through all states that are met; null if they are more than the limit. */
    private static Dfa explore(int mask, String begin, Step step, Good good, int limit) {
        Map<String, Integer> numbers = new LinkedHashMap<>();
        List<String> queue = new ArrayList<>(List.of(begin));
        List<int[]> rows = new ArrayList<>();
        numbers.put(begin, 0);
        for (int i = 0; i < queue.size(); i++) {
            int[] row = new int[32];
            for (int sign = 0; sign < 32; sign++) {
                String to = step.from(queue.get(i), bits(sign));
                if (!numbers.containsKey(to)) {
                    numbers.put(to, queue.size());
                    queue.add(to);
                }
                row[sign] = numbers.get(to);
            }
            rows.add(row);
            if (queue.size() > limit) {
                return null;
            }
        }
        Dfa out = new Dfa();
        out.mask = mask;
        out.next = rows.toArray(new int[0][]);
        out.good = new boolean[rows.size()];
        for (int i = 0; i < rows.size(); i++) {
            out.good[i] = good.is(queue.get(i));
        }
        return out;
    }

    /** Marks pairs that are unlike until there is nothing new to mark. */
    private static Dfa least(Dfa big) {
        int size = big.next.length;
        boolean[][] unlike = new boolean[size][size];
        for (int p = 0; p < size; p++) {
            for (int q = 0; q < size; q++) {
                unlike[p][q] = big.good[p] != big.good[q];
            }
        }
        for (boolean more = true; more;) {
            more = false;
            for (int p = 0; p < size; p++) {
                for (int q = 0; q < p; q++) {
                    for (int sign = 0; sign < 32 && !unlike[p][q]; sign++) {
                        if (unlike[big.next[p][sign]][big.next[q][sign]]) {
                            unlike[p][q] = true;
                            unlike[q][p] = true;
                            more = true;
                        }
                    }
                }
            }
        }
        int[] first = new int[size];
        for (int p = 0; p < size; p++) {
            while (unlike[p][first[p]]) {
                first[p]++;
            }
        }
        Dfa out = explore(big.mask, "0", (state, bits) -> {
            int sign = 0;
            for (int x = 0; x < 5; x++) {
                sign |= bits[x] << x;
            }
            return "" + first[big.next[Integer.parseInt(state)][sign]];
        }, state -> big.good[Integer.parseInt(state)], Integer.MAX_VALUE);
        out.test = big.test;
        return out;
    }

    private int push(Dfa built, Test test) {
        built.test = test;
        stack.add(least(built));
        return stack.size();
    }

    int equal(int x, int y) {
        needVariables(x, y);
        needRoomForFormula();
        return push(explore(1 << x | 1 << y, "yes", (s, b) -> s.equals("yes") && b[x] == b[y] ? "yes" : "no",
                s -> s.equals("yes"), 99), n -> n[x] == n[y]);
    }

    int less(int x, int y) {
        needVariables(x, y);
        needRoomForFormula();
        return push(explore(1 << x | 1 << y, "0",
                (s, b) -> s.equals("0") ? "" + Integer.compare(b[x], b[y]) : s,
                s -> s.equals("-1"), 99), n -> n[x] < n[y]);
    }

    int sum(int x, int y, int z) {
        needVariables(x, y, z);
        needRoomForFormula();
        return push(explore(1 << x | 1 << y | 1 << z, "0", (s, b) -> {
            int now = 2 * Integer.parseInt(s) + b[z] - b[x] - b[y];
            return "" + Math.max(-9, Math.min(9, now));
        }, s -> s.equals("0"), 99), n -> n[x] + n[y] == n[z]);
    }

    int number(int x, int number) {
        needVariables(x);
        if (number < 0 || number > 20) {
            throw new IllegalArgumentException();
        }
        needRoomForFormula();
        return push(explore(1 << x, "", (s, b) -> {
            String read = (s + b[x]).replaceFirst("^0+", "");
            return read.length() > 6 ? s : read;
        }, s -> s.equals(number == 0 ? "" : Integer.toBinaryString(number)), 999), n -> n[x] == number);
    }

    private Line binaryLine(int sequence) {
        Line line = pick(lines, sequence);
        if (line.text != null || line.base != 2) {
            throw new UnsupportedOperationException();
        }
        Line copy = new Line();
        copy.base = 2;
        copy.letters = line.letters.clone();
        copy.arrows = new int[line.arrows.length][];
        for (int i = 0; i < copy.arrows.length; i++) {
            copy.arrows[i] = line.arrows[i].clone();
        }
        return copy;
    }

    /** The state after noughts alone is written as w. */
    private static String step(Line line, String state, int bit) {
        if (state.equals("w")) {
            return bit == 0 ? "w" : "" + line.arrows[0][1];
        }
        return "" + line.arrows[Integer.parseInt(state)][bit];
    }

    private static char letter(Line line, String state) {
        return line.letters[state.equals("w") ? 0 : Integer.parseInt(state)];
    }

    int letterIs(int sequence, int x, char letter) {
        Line line = binaryLine(sequence);
        needVariables(x);
        if ("abcd".indexOf(letter) < 0) {
            throw new IllegalArgumentException();
        }
        needRoomForFormula();
        return push(explore(1 << x, "w", (s, b) -> step(line, s, b[x]), s -> letter(line, s) == letter, 99),
                n -> line.at(n[x]) == letter);
    }

    int same(int sequence, int x, int y) {
        Line line = binaryLine(sequence);
        needVariables(x, y);
        needRoomForFormula();
        return push(explore(1 << x | 1 << y, "w w", (s, b) -> {
            String[] two = s.split(" ");
            return step(line, two[0], b[x]) + " " + step(line, two[1], b[y]);
        }, s -> letter(line, s.split(" ")[0]) == letter(line, s.split(" ")[1]), 99),
                n -> line.at(n[x]) == line.at(n[y]));
    }

    private static int sign(int[] bits) {
        int out = 0;
        for (int x = 0; x < 5; x++) {
            out |= bits[x] << x;
        }
        return out;
    }

    int join(boolean isAnd) {
        needFormulas(2);
        Dfa one = stack.get(stack.size() - 2);
        Dfa other = top();
        Dfa both = explore(one.mask | other.mask, "0 0", (s, b) -> {
            String[] two = s.split(" ");
            return one.next[Integer.parseInt(two[0])][sign(b)] + " "
                    + other.next[Integer.parseInt(two[1])][sign(b)];
        }, s -> {
            boolean p = one.good[Integer.parseInt(s.split(" ")[0])];
            boolean q = other.good[Integer.parseInt(s.split(" ")[1])];
            return isAnd ? p && q : p || q;
        }, most);
        if (both == null) {
            throw new UnsupportedOperationException();
        }
        met = both.next.length;
        stack.remove(stack.size() - 1);
        stack.remove(stack.size() - 1);
        Test p = one.test;
        Test q = other.test;
        return push(both, p == null || q == null ? null
                : n -> isAnd ? p.on(n) && q.on(n) : p.on(n) || q.on(n));
    }

    int not() {
        needFormulas(1);
        Dfa changed = top();
        for (int i = 0; i < changed.good.length; i++) {
            changed.good[i] = !changed.good[i];
        }
        Test before = changed.test;
        changed.test = before == null ? null : n -> !before.on(n);
        return changed.good.length;
    }

    int exists(int x) {
        needVariables(x);
        needFormulas(1);
        Dfa old = top();
        Set<Integer> begin = new TreeSet<>(Set.of(0));
        for (int before = 0; before < begin.size();) {
            before = begin.size();
            Set<Integer> more = new TreeSet<>(begin);
            for (int state : begin) {
                more.add(old.next[state][0]);
                more.add(old.next[state][1 << x]);
            }
            begin = more;
        }
        Dfa made = explore(old.mask & ~(1 << x), begin.toString(), (s, b) -> {
            Set<Integer> to = new TreeSet<>();
            for (int state : members(s)) {
                to.add(old.next[state][sign(b) & ~(1 << x)]);
                to.add(old.next[state][sign(b) | 1 << x]);
            }
            return to.toString();
        }, s -> members(s).stream().anyMatch(state -> old.good[state]), most);
        if (made == null) {
            throw new UnsupportedOperationException();
        }
        met = made.next.length;
        stack.remove(stack.size() - 1);
        push(made, (old.mask >> x & 1) == 0 ? old.test : null);
        return top().good.length;
    }

    private static List<Integer> members(String set) {
        List<Integer> out = new ArrayList<>();
        for (String member : set.replaceAll("[\\[\\] ]", "").split(",")) {
            out.add(Integer.parseInt(member));
        }
        return out;
    }

    int forAll(int x) {
        needVariables(x);
        needFormulas(1);
        not();
        try {
            exists(x);
        } catch (UnsupportedOperationException e) {
            not();
            throw e;
        }
        return not();
    }

    int drop() {
        needFormulas(1);
        stack.remove(stack.size() - 1);
        return stack.size();
    }

    int free() {
        needFormulas(1);
        return top().mask;
    }

    int states() {
        needFormulas(1);
        return top().good.length;
    }

    boolean isTrue() {
        needFormulas(1);
        if (top().mask != 0) {
            throw new UnsupportedOperationException();
        }
        return top().good[0];
    }

    private static boolean read(Dfa read, int[] numbers) {
        int state = 0;
        for (int place = 24; place >= 0; place--) {
            int sign = 0;
            for (int x = 0; x < 5; x++) {
                sign |= (numbers[x] >> place & 1) << x;
            }
            state = read.next[state][sign];
        }
        if (read.test != null && read.test.on(numbers) != read.good[state]) {
            throw new AssertionError("the plain hall does not agree with itself");
        }
        return read.good[state];
    }

    boolean holds(int a, int b, int c, int d, int e) {
        int[] numbers = {a, b, c, d, e};
        for (int number : numbers) {
            if (number < 0 || number > 1000000) {
                throw new IllegalArgumentException();
            }
        }
        needFormulas(1);
        return read(top(), numbers);
    }

    int count(int x, int below) {
        needVariables(x);
        if (below < 0 || below > 1000) {
            throw new IllegalArgumentException();
        }
        needFormulas(1);
        int found = 0;
        for (int number = 0; number < below; number++) {
            int[] numbers = new int[5];
            numbers[x] = number;
            found += read(top(), numbers) ? 1 : 0;
        }
        return found;
    }

    private Set<String> pieceSet(int sequence, int length, int longest) {
        Line line = pick(lines, sequence);
        if (length < 1 || length > longest) {
            throw new IllegalArgumentException();
        }
        String text = line.first(600);
        Set<String> found = new HashSet<>();
        for (int i = 0; i + length <= 600; i++) {
            found.add(text.substring(i, i + length));
        }
        return found;
    }

    int pieces(int sequence, int length) {
        return pieceSet(sequence, length, 12).size();
    }

    int piecesByCounts(int sequence, int length) {
        Set<String> found = new HashSet<>();
        for (String piece : pieceSet(sequence, length, 60)) {
            char[] sorted = piece.toCharArray();
            Arrays.sort(sorted);
            found.add(new String(sorted));
        }
        return found.size();
    }

    int palindromes(int sequence, int length) {
        int found = 0;
        for (String piece : pieceSet(sequence, length, 12)) {
            found += new StringBuilder(piece).reverse().toString().equals(piece) ? 1 : 0;
        }
        return found;
    }

    /** The least period of each beginning of each end, by the longest border. */
    float exponent(int sequence, int places) {
        Line line = pick(lines, sequence);
        if (places < 1 || places > 120) {
            throw new IllegalArgumentException();
        }
        String text = line.first(places);
        float best = 0;
        for (int from = 0; from < places; from++) {
            int[] border = new int[places - from + 1];
            border[0] = -1;
            for (int length = 1; from + length <= places; length++) {
                int at = border[length - 1];
                while (at >= 0 && text.charAt(from + at) != text.charAt(from + length - 1)) {
                    at = border[at];
                }
                border[length] = at + 1;
                best = Math.max(best, (float) length / (float) (length - border[length]));
            }
        }
        return best;
    }

    int regular(int rank) {
        if (rank < 1 || rank > 3) {
            throw new IllegalArgumentException();
        }
        if (tables.size() == 4) {
            throw new IllegalStateException();
        }
        tables.add(new Table(rank));
        return tables.size() - 1;
    }

    int entry(int regular, char part, int row, int column, int value) {
        Table table = pick(tables, regular);
        int rows = part == 'l' ? 1 : table.rank;
        int columns = part == 'r' ? 1 : table.rank;
        if (row < 0 || row >= rows || column < 0 || column >= columns) {
            throw new IndexOutOfBoundsException();
        }
        if ("l01r".indexOf(part) < 0 || value < -9 || value > 9) {
            throw new IllegalArgumentException();
        }
        long[] at = part == 'l' ? table.row : part == 'r' ? table.column : table.matrices[part - '0'][row];
        int index = part == 'r' ? row : column;
        int before = (int) at[index];
        at[index] = value;
        return before;
    }

    int added(int one, int other) {
        Table first = pick(tables, one);
        Table second = pick(tables, other);
        if (first.rank + second.rank > 6) {
            throw new UnsupportedOperationException();
        }
        if (tables.size() == 4) {
            throw new IllegalStateException();
        }
        Table both = new Table(first.rank + second.rank);
        for (int i = 0; i < both.rank; i++) {
            boolean isFirst = i < first.rank;
            Table from = isFirst ? first : second;
            int shift = isFirst ? 0 : first.rank;
            both.row[i] = from.row[i - shift];
            both.column[i] = from.column[i - shift];
            for (int digit = 0; digit < 2; digit++) {
                for (int j = 0; j < from.rank; j++) {
                    both.matrices[digit][i][shift + j] = from.matrices[digit][i - shift][j];
                }
            }
        }
        tables.add(both);
        return tables.size() - 1;
    }

    /** From the lowest digit on, with the column. */
    long term(int regular, int place) {
        Table table = pick(tables, regular);
        if (place < 0 || place > 1000000000) {
            throw new IllegalArgumentException();
        }
        long[] now = table.column.clone();
        for (int rest = place; rest > 0; rest /= 2) {
            long[] later = new long[table.rank];
            for (int i = 0; i < table.rank; i++) {
                for (int j = 0; j < table.rank; j++) {
                    later[i] += table.matrices[rest % 2][i][j] * now[j];
                }
            }
            now = later;
        }
        long total = 0;
        for (int i = 0; i < table.rank; i++) {
            total += table.row[i] * now[i];
        }
        return total;
    }

    /** Each word is asked by a regular expression. */
    int avoiders(int letters, int length) {
        if (letters < 2 || letters > 3 || length < 0 || length > 10) {
            throw new IllegalArgumentException();
        }
        if (word.isEmpty()) {
            throw new NoSuchElementException();
        }
        StringBuilder expression = new StringBuilder();
        String named = "";
        for (char c : word.toCharArray()) {
            int group = named.indexOf(c) + 1;
            expression.append(group > 0 ? "\\" + group : "(.+)");
            named += group > 0 ? "" : "" + c;
        }
        return AVOIDERS.computeIfAbsent(expression + " " + letters + " " + length,
                key -> countUnmatched(Pattern.compile(expression.toString()), letters, length));
    }

    private static int countUnmatched(Pattern pattern, int letters, int length) {
        int found = 0;
        int words = (int) Math.round(Math.pow(letters, length));
        for (int number = 0; number < words; number++) {
            StringBuilder tried = new StringBuilder();
            for (int i = 0, rest = number; i < length; i++, rest /= letters) {
                tried.append((char) ('a' + rest % letters));
            }
            found += pattern.matcher(tried).find() ? 0 : 1;
        }
        return found;
    }

    int command(char letter, char command) {
        if ("abcd".indexOf(letter) < 0 || "flr-".indexOf(command) < 0) {
            throw new IllegalArgumentException();
        }
        commands[letter - 'a'] = command;
        return new String(commands).replace("-", "").length();
    }

    int path(int sequence, int places, char what) {
        Line line = pick(lines, sequence);
        if (places < 0 || places > 1000 || "xyn".indexOf(what) < 0) {
            throw new IllegalArgumentException();
        }
        int x = 0;
        int y = 0;
        int dx = 1;
        int dy = 0;
        Set<String> visited = new HashSet<>(Set.of("0 0"));
        for (char letter : line.first(places).toCharArray()) {
            int oldDx = dx;
            switch (commands[letter - 'a']) {
                case 'f' -> {
                    x += dx;
                    y += dy;
                }
                case 'l' -> {
                    dx = -dy;
                    dy = oldDx;
                }
                case 'r' -> {
                    dx = dy;
                    dy = -oldDx;
                }
                default -> { }
            }
            visited.add(x + " " + y);
        }
        return what == 'x' ? x : what == 'y' ? y : visited.size();
    }

    double meanLetter(int sequence, int places) {
        Line line = pick(lines, sequence);
        if (places < 1 || places > 1000) {
            throw new IllegalArgumentException();
        }
        int total = 0;
        for (char letter : line.first(places).toCharArray()) {
            total += letter - 'a';
        }
        return (double) total / (double) places;
    }

    long checksum() {
        long total = 7;
        for (Line line : lines) {
            for (char letter : line.first(32).toCharArray()) {
                total = 31 * total + (letter - 'a');
            }
        }
        return total;
    }

    boolean isSound() {
        return true;
    }
}
