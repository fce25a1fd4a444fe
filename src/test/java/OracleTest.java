import java.math.BigInteger;
import java.util.ArrayList;
import java.util.Arrays;
import java.util.Collections;
import java.util.HashMap;
import java.util.List;
import java.util.Map;
import java.util.NoSuchElementException;
import java.util.TreeMap;
import java.util.TreeSet;
import java.util.concurrent.Callable;

/**
 * Long runs of calls, right and wrong ones, whose answers are compared with those of a second, naive program
 * that follows the document's words by other ways (all subsets, recursion, lists).
 */
public final class OracleTest {
    private static final int RUNS = 150;
    private static final int CALLS = 512;
    private static final char[] STATISTICS = {'i', 'd', 'm', 'p', 'l', 'f', 's', 'x'};
    private static final char[] MACHINES = {'s', 'p', 'q', 'b', 'x'};
    private static final char[] SYMMETRIES = {'r', 'c', 'i', 'x'};

    private static int wrong = 0;
    private static long state;
    private static int style;

    public static void main(String[] args) {
        Map<String, Integer> seen = new TreeMap<>();
        for (int run = 1; run <= RUNS && wrong < 20; run++) {
            state = run * 7919L;
            style = run % 4;
            AvoidanceLab lab = new AvoidanceLab();
            Naive naive = new Naive();
            StringBuilder story = new StringBuilder();
            for (int call = 0; call < CALLS; call++) {
                String[] told = new String[1];
                Callable<?>[] both = next(lab, naive, told, call);
                String got = answer(both[0]);
                String due = answer(both[1]);
                String kind = told[0].substring(0, told[0].indexOf('('))
                        + (due.startsWith("throws.") ? " " + due : "");
                seen.merge(kind, 1, Integer::sum);
                if (told[0].startsWith("open") || told[0].startsWith("avoid") || told[0].startsWith("meet")
                        || told[0].startsWith("join") || told[0].startsWith("seed")) {
                    story.append(told[0]).append(" = ").append(due).append("; ");
                }
                if (!got.equals(due)) {
                    wrong++;
                    System.out.println("run " + run + ": " + told[0] + " answered " + got + ", due is " + due
                            + " behind " + story);
                    break;
                }
            }
        }
        if (args.length > 0) {
            System.out.println(seen);
        }
        for (String kind : KINDS) {
            if (!seen.containsKey(kind)) {
                wrong++;
                System.out.println("no run has met " + kind);
            }
        }
        if (wrong > 0) {
            System.exit(1);
        }
    }

    /** What the runs must meet at least once: each method and each of its exceptions. */
    private static final String[] KINDS = {
        "isPermutation", "symmetry", "symmetry throws.IllegalArgumentException", "product",
        "product throws.IllegalArgumentException", "inflate", "inflate throws.IllegalArgumentException", "statistic",
        "statistic throws.IllegalArgumentException", "occurrences", "occurrences throws.IllegalArgumentException",
        "occurrenceAt", "occurrenceAt throws.IllegalArgumentException", "occurrenceAt throws.NoSuchElementException",
        "open", "open throws.IllegalStateException", "avoid", "avoid throws.IndexOutOfBoundsException",
        "avoid throws.IllegalArgumentException", "avoid throws.IllegalStateException", "basisAt",
        "basisAt throws.IndexOutOfBoundsException", "basisAt throws.NoSuchElementException", "meet",
        "meet throws.IndexOutOfBoundsException", "meet throws.UnsupportedOperationException",
        "meet throws.IllegalStateException", "join", "join throws.IndexOutOfBoundsException",
        "join throws.UnsupportedOperationException", "join throws.IllegalStateException", "isIn",
        "isIn throws.IndexOutOfBoundsException", "isIn throws.IllegalArgumentException", "count",
        "count throws.IndexOutOfBoundsException", "count throws.IllegalArgumentException", "at",
        "at throws.IndexOutOfBoundsException", "at throws.IllegalArgumentException",
        "at throws.NoSuchElementException", "areAsMany", "areAsMany throws.IndexOutOfBoundsException",
        "areAsMany throws.IllegalArgumentException", "joint", "joint throws.IndexOutOfBoundsException",
        "joint throws.IllegalArgumentException", "pass", "pass throws.IllegalArgumentException", "passes",
        "passes throws.IllegalArgumentException", "sorted", "sorted throws.IllegalArgumentException", "label",
        "label throws.IndexOutOfBoundsException", "label throws.IllegalArgumentException",
        "label throws.UnsupportedOperationException", "child", "child throws.IndexOutOfBoundsException",
        "child throws.IllegalArgumentException", "child throws.UnsupportedOperationException",
        "child throws.NoSuchElementException", "hasRule", "hasRule throws.IndexOutOfBoundsException",
        "hasRule throws.IllegalArgumentException", "slotted", "slotted throws.IllegalArgumentException", "slots",
        "slots throws.IllegalArgumentException", "intervals", "intervals throws.IllegalArgumentException", "simple",
        "simple throws.IndexOutOfBoundsException", "simple throws.IllegalArgumentException", "griddings",
        "griddings throws.IllegalArgumentException", "signOf", "signOf throws.IllegalArgumentException",
        "signOf throws.UnsupportedOperationException", "packing", "packing throws.IllegalArgumentException",
        "growthOver", "growthOver throws.IndexOutOfBoundsException", "growthOver throws.IllegalArgumentException",
        "growthOver throws.ArithmeticException", "growthUnder", "growthUnder throws.IndexOutOfBoundsException",
        "growthUnder throws.IllegalArgumentException", "growthUnder throws.ArithmeticException", "universal",
        "universal throws.IllegalArgumentException", "sample", "sample throws.IndexOutOfBoundsException",
        "sample throws.IllegalArgumentException", "sample throws.NoSuchElementException", "seed",
        "seed throws.IllegalArgumentException", "share", "share throws.IndexOutOfBoundsException",
        "share throws.IllegalArgumentException", "mean", "mean throws.IndexOutOfBoundsException",
        "mean throws.IllegalArgumentException", "mean throws.ArithmeticException", "checksum", "isTrue",
    };

    private static String answer(Callable<?> call) {
        try {
            return String.valueOf(call.call());
        } catch (Exception e) {
            return "throws." + e.getClass().getSimpleName();
        }
    }

    private static int below(int bound) {
        state = state * 6364136223846793005L + 1442695040888963407L;
        return (int) Math.floorMod(state >>> 33, (long) bound);
    }

    private static int between(int least, int greatest) {
        return least + below(greatest - least + 1);
    }

    /** Mostly a permutation, of one of these sizes. */
    private static int permutation(int least, int greatest) {
        if (below(25) == 0) {
            int[] wrongOnes = {0, -1, -12, 11, 13, 112, 102, 120, 10, 2, 9, 123456789, 987654321, 88888888, 12345679,
                2147483647, -2147483648, 1234567890, 20, 99, 23};
            return wrongOnes[below(wrongOnes.length)];
        }
        int size = between(least, greatest);
        List<Integer> numbers = new ArrayList<>();
        for (int number = 1; number <= size; number++) {
            numbers.add(below(numbers.size() + 1), number);
        }
        int digits = 0;
        for (int number : numbers) {
            digits = digits * 10 + number;
        }
        return digits;
    }

    private static int classNumber(Naive naive) {
        return below(25) == 0 ? between(-2, 7) : below(Math.max(1, naive.bases.size()));
    }

    private static int size(int least, int greatest) {
        return below(15) == 0 ? between(least - 2, greatest + 2) : between(least, greatest);
    }

    private static Callable<?>[] two(Callable<?> one, Callable<?> other) {
        return new Callable<?>[] {one, other};
    }

    private static Callable<?>[] next(AvoidanceLab x, Naive n, String[] told, int call) {
        int kind = below(60);
        if (call < 2) {
            kind = 8;
        } else if (kind >= 40 && kind < 46 || call < 12 || kind == 8 && below(20) > 0) {
            kind = 9;
        } else if (kind == 9 && below(20) > 0 || kind >= 54 && call < 100) {
            kind = 53;
        }
        return kind < 18 ? early(x, n, told, kind) : kind < 46 ? later(x, n, told, kind) : again(x, n, told, kind);
    }

    private static Callable<?>[] early(AvoidanceLab x, Naive n, String[] told, int kind) {
        int c = classNumber(n);
        int d = classNumber(n);
        int s = size(1, 7);
        switch (kind) {
            case 0: {
                int p = permutation(1, 8);
                told[0] = "isPermutation(" + p + ")";
                return two(() -> x.isPermutation(p), () -> n.isPermutation(p));
            }
            case 1: {
                int p = permutation(1, 8);
                char w = SYMMETRIES[below(4)];
                told[0] = "symmetry(" + p + ", " + w + ")";
                return two(() -> x.symmetry(p, w), () -> n.symmetry(p, w));
            }
            case 2: {
                int length = between(1, 8);
                int p = permutation(length, length);
                int q = below(9) == 0 ? permutation(1, 8) : permutation(length, length);
                told[0] = "product(" + p + ", " + q + ")";
                return two(() -> x.product(p, q), () -> n.product(p, q));
            }
            case 3: {
                int p = permutation(1, 8);
                int q = permutation(1, 4);
                int place = between(-1, 8);
                told[0] = "inflate(" + p + ", " + place + ", " + q + ")";
                return two(() -> x.inflate(p, place, q), () -> n.inflate(p, place, q));
            }
            case 4: {
                int p = permutation(1, 8);
                char w = STATISTICS[below(8)];
                told[0] = "statistic(" + p + ", " + w + ")";
                return two(() -> x.statistic(p, w), () -> n.statistic(p, w));
            }
            case 5:
            case 6: {
                int p = permutation(1, 8);
                int q = permutation(1, below(4) == 0 ? 7 : 4);
                int bits = below(3) == 0 ? 0 : below(12) == 0 ? between(-3, 300) : below(256);
                int shades = below(3) == 0 ? 0 : below(16) == 0 ? -below(1000) : shades();
                told[0] = "occurrences(" + p + ", " + q + ", " + bits + ", " + shades + ")";
                return two(() -> x.occurrences(p, q, bits, shades), () -> n.occurrences(p, q, bits, shades));
            }
            case 7: {
                int p = permutation(1, 8);
                int q = permutation(1, 5);
                int bits = below(2) == 0 ? 0 : below(12) == 0 ? between(-3, 300) : below(256);
                int shades = below(2) == 0 ? 0 : below(16) == 0 ? -below(1000) : shades();
                int index = below(9) == 0 ? between(-2, 70) : between(0, 4);
                told[0] = "occurrenceAt(" + p + ", " + q + ", " + bits + ", " + shades + ", " + index + ")";
                return two(() -> x.occurrenceAt(p, q, bits, shades, index),
                        () -> n.occurrenceAt(p, q, bits, shades, index));
            }
            case 8:
                told[0] = "open()";
                return two(() -> x.open(), () -> n.open());
            case 9: {
                // Some runs keep their classes large, with many patterns that are long.
                int q = style == 0 ? permutation(5, 8) : style == 1 ? permutation(4, 6)
                        : below(12) == 0 ? permutation(1, 3) : permutation(3, below(3) == 0 ? 8 : 5);
                told[0] = "avoid(" + c + ", " + q + ")";
                return two(() -> x.avoid(c, q), () -> n.avoid(c, q));
            }
            case 10: {
                int index = between(-1, 12);
                told[0] = "basisAt(" + c + ", " + index + ")";
                return two(() -> x.basisAt(c, index), () -> n.basisAt(c, index));
            }
            case 11:
                told[0] = "meet(" + c + ", " + d + ")";
                return two(() -> x.meet(c, d), () -> n.meet(c, d));
            case 12:
                told[0] = "join(" + c + ", " + d + ")";
                return two(() -> x.join(c, d), () -> n.join(c, d));
            case 13: {
                int p = permutation(1, 8);
                told[0] = "isIn(" + c + ", " + p + ")";
                return two(() -> x.isIn(c, p), () -> n.isIn(c, p));
            }
            case 14:
                told[0] = "count(" + c + ", " + s + ")";
                return two(() -> x.count(c, s), () -> n.count(c, s));
            case 15: {
                int index = below(3) == 0 ? between(-2, 5100) : between(0, 30);
                told[0] = "at(" + c + ", " + s + ", " + index + ")";
                return two(() -> x.at(c, s, index), () -> n.at(c, s, index));
            }
            case 16:
                told[0] = "areAsMany(" + c + ", " + d + ", " + s + ")";
                return two(() -> x.areAsMany(c, d, s), () -> n.areAsMany(c, d, s));
            default: {
                char w = STATISTICS[below(8)];
                char v = STATISTICS[below(8)];
                int a = between(0, 6);
                int b = between(-1, 6);
                told[0] = "joint(" + c + ", " + s + ", " + w + ", " + a + ", " + v + ", " + b + ")";
                return two(() -> x.joint(c, s, w, a, v, b), () -> n.joint(c, s, w, a, v, b));
            }
        }
    }

    private static int shades() {
        int shades = 0;
        int many = between(1, 4);
        for (int each = 0; each < many; each++) {
            shades |= 1 << below(below(2) == 0 ? 16 : 31);
        }
        return shades;
    }

    private static Callable<?>[] later(AvoidanceLab x, Naive n, String[] told, int kind) {
        int c = classNumber(n);
        int s = size(1, 7);
        int p = permutation(1, 8);
        char machine = MACHINES[below(5)];
        switch (kind) {
            case 18:
                told[0] = "pass(" + p + ", " + machine + ")";
                return two(() -> x.pass(p, machine), () -> n.pass(p, machine));
            case 19:
                told[0] = "passes(" + p + ", " + machine + ")";
                return two(() -> x.passes(p, machine), () -> n.passes(p, machine));
            case 20: {
                int most = between(-1, 10);
                told[0] = "sorted(" + s + ", " + machine + ", " + most + ")";
                return two(() -> x.sorted(s, machine, most), () -> n.sorted(s, machine, most));
            }
            case 21: {
                int q = permutation(1, below(3) == 0 ? 8 : 4);
                told[0] = "label(" + c + ", " + q + ")";
                return two(() -> x.label(c, q), () -> n.label(c, q));
            }
            case 22: {
                int q = permutation(1, below(3) == 0 ? 8 : 4);
                int index = between(-1, 6);
                told[0] = "child(" + c + ", " + q + ", " + index + ")";
                return two(() -> x.child(c, q, index), () -> n.child(c, q, index));
            }
            case 23: {
                int most = size(2, 6);
                told[0] = "hasRule(" + c + ", " + most + ")";
                return two(() -> x.hasRule(c, most), () -> n.hasRule(c, most));
            }
            case 24: {
                int number = below(6) == 0 ? between(-1, 9) : between(1, 8);
                told[0] = "slotted(" + p + ", " + number + ")";
                return two(() -> x.slotted(p, number), () -> n.slotted(p, number));
            }
            case 25:
                told[0] = "slots(" + p + ")";
                return two(() -> x.slots(p), () -> n.slots(p));
            case 26:
                told[0] = "intervals(" + p + ")";
                return two(() -> x.intervals(p), () -> n.intervals(p));
            case 27:
                told[0] = "simple(" + c + ", " + s + ")";
                return two(() -> x.simple(c, s), () -> n.simple(c, s));
            case 28:
            case 29:
            case 30: {
                int columns = size(1, 3);
                int rows = size(1, 3);
                int cells = cells(columns * rows);
                int q = permutation(1, 6);
                told[0] = "griddings(" + q + ", " + columns + ", " + rows + ", " + cells + ")";
                return two(() -> x.griddings(q, columns, rows, cells), () -> n.griddings(q, columns, rows, cells));
            }
            case 31: {
                int q = permutation(1, 3);
                int r = permutation(3, below(5) == 0 ? 8 : 6);
                told[0] = "signOf(" + q + ", " + r + ")";
                return two(() -> x.signOf(q, r), () -> n.signOf(q, r));
            }
            case 32: {
                int q = permutation(1, 5);
                int length = below(5) == 0 ? between(-1, 9) : between(1, 5);
                told[0] = "packing(" + q + ", " + length + ")";
                return two(() -> x.packing(q, length), () -> n.packing(q, length));
            }
            case 33:
            case 34: {
                int length = size(2, 7);
                told[0] = "growthOver(" + c + ", " + length + ")";
                return two(() -> x.growthOver(c, length), () -> n.growth(c, length, true));
            }
            case 35:
            case 36: {
                int length = size(2, 7);
                told[0] = "growthUnder(" + c + ", " + length + ")";
                return two(() -> x.growthUnder(c, length), () -> n.growth(c, length, false));
            }
            default: {
                int length = between(-1, 5);
                told[0] = "universal(" + length + ")";
                return two(() -> x.universal(length), () -> n.universal(length));
            }
        }
    }

    private static int cells(int many) {
        if (below(15) == 0) {
            return between(-5, 300000);
        }
        int cells = 0;
        for (int cell = 0; cell < many; cell++) {
            cells = cells * 10 + (below(40) == 0 ? 3 : between(0, 2));
        }
        return cells;
    }

    private static Callable<?>[] again(AvoidanceLab x, Naive n, String[] told, int kind) {
        int c = classNumber(n);
        int d = classNumber(n);
        int s = size(1, 7);
        char w = STATISTICS[below(8)];
        switch (kind) {
            case 46:
            case 47:
                told[0] = "sample(" + c + ", " + s + ")";
                return two(() -> x.sample(c, s), () -> n.sample(c, s));
            case 48: {
                int z = below(2) == 0 ? between(-1, 5) : below(4) == 0 ? 2147483647 - below(3) : below(2147483647);
                told[0] = "seed(" + z + ")";
                return two(() -> x.seed(z), () -> n.seed(z));
            }
            case 49:
                told[0] = "share(" + c + ", " + s + ")";
                return two(() -> x.share(c, s), () -> n.share(c, s));
            case 50:
            case 51:
                told[0] = "mean(" + c + ", " + s + ", " + w + ")";
                return two(() -> x.mean(c, s, w), () -> n.mean(c, s, w));
            case 52:
                told[0] = "checksum()";
                return two(() -> x.checksum(), () -> n.checksum());
            case 53:
                told[0] = "isTrue()";
                return two(() -> x.isTrue(), () -> true);
            case 54:
                told[0] = "meet(" + c + ", " + d + ")";
                return two(() -> x.meet(c, d), () -> n.meet(c, d));
            case 55:
                told[0] = "join(" + c + ", " + d + ")";
                return two(() -> x.join(c, d), () -> n.join(c, d));
            default: {
                int q = style == 0 ? permutation(6, 8) : permutation(4, 6);
                told[0] = "avoid(" + c + ", " + q + ")";
                return two(() -> x.avoid(c, q), () -> n.avoid(c, q));
            }
        }
    }

    /** The second program. A permutation is a text of digits here. */
    private static final class Naive {
        final List<List<Integer>> bases = new ArrayList<>();
        private final Map<String, List<String>> listed = new HashMap<>();
        private static final Map<String, Boolean> CONTAINED = new HashMap<>();
        private static final Map<String, Integer> SIGNS = new HashMap<>();
        private static final Map<String, Integer> SORTED = new HashMap<>();
        private static final List<List<String>> ALL = new ArrayList<>();
        private BigInteger z = BigInteger.ONE;

        static {
            ALL.add(new ArrayList<>(List.of("")));
            for (int size = 1; size <= 8; size++) {
                TreeSet<String> all = new TreeSet<>();
                for (String less : ALL.get(size - 1)) {
                    for (int place = 0; place < size; place++) {
                        all.add(less.substring(0, place) + size + less.substring(place));
                    }
                }
                ALL.add(new ArrayList<>(all));
            }
        }

        boolean isPermutation(int digits) {
            String text = String.valueOf(digits);
            return digits > 0 && text.length() <= 8
                    && Collections.binarySearch(ALL.get(text.length()), text) >= 0;
        }

        private String text(int digits) {
            need(isPermutation(digits));
            return String.valueOf(digits);
        }

        private static void need(boolean holds) {
            if (!holds) {
                throw new IllegalArgumentException();
            }
        }

        private static String standard(String numbers) {
            StringBuilder standard = new StringBuilder();
            for (char each : numbers.toCharArray()) {
                standard.append(1 + numbers.chars().filter(other -> other < each).count());
            }
            return standard.toString();
        }

        private static String part(String whole, int places) {
            StringBuilder part = new StringBuilder();
            for (int place = 0; place < whole.length(); place++) {
                if ((places & 1 << place) != 0) {
                    part.append(whole.charAt(place));
                }
            }
            return part.toString();
        }

        static boolean contains(String whole, String pattern) {
            if (pattern.length() >= whole.length()) {
                return pattern.equals(whole);
            }
            return CONTAINED.computeIfAbsent(whole + ">" + pattern, key -> {
                for (int places = 1; places < 1 << whole.length(); places++) {
                    if (Integer.bitCount(places) == pattern.length() && standard(part(whole, places)).equals(pattern)) {
                        return true;
                    }
                }
                return false;
            });
        }

        int symmetry(int permutation, char which) {
            String text = text(permutation);
            need(which == 'r' || which == 'c' || which == 'i');
            int size = text.length();
            char[] result = new char[size];
            for (int place = 0; place < size; place++) {
                int number = text.charAt(place) - '0';
                if (which == 'r') {
                    result[size - 1 - place] = text.charAt(place);
                } else if (which == 'c') {
                    result[place] = (char) ('0' + size + 1 - number);
                } else {
                    result[number - 1] = (char) ('1' + place);
                }
            }
            return Integer.parseInt(new String(result));
        }

        int product(int permutation, int other) {
            String one = text(permutation);
            String two = text(other);
            need(one.length() == two.length());
            StringBuilder result = new StringBuilder();
            for (char place : two.toCharArray()) {
                result.append(one.charAt(place - '1'));
            }
            return Integer.parseInt(result.toString());
        }

        int inflate(int permutation, int place, int other) {
            String one = text(permutation);
            String two = text(other);
            need(place >= 0 && place < one.length() && one.length() + two.length() - 1 <= 8);
            // Fractions of the number do for its room: the order of all is taken behind that.
            List<Double> values = new ArrayList<>();
            for (int each = 0; each < one.length(); each++) {
                double number = one.charAt(each) - '0';
                if (each == place) {
                    for (char inner : two.toCharArray()) {
                        values.add(number + (inner - '0') / 10.0);
                    }
                } else {
                    values.add(number);
                }
            }
            StringBuilder result = new StringBuilder();
            for (double value : values) {
                result.append(1 + values.stream().filter(each -> each < value).count());
            }
            return Integer.parseInt(result.toString());
        }

        int statistic(int permutation, char which) {
            String p = text(permutation);
            need("idmplfs".indexOf(which) >= 0);
            return measure(p, which);
        }

        private static int measure(String p, char which) {
            int size = p.length();
            int sum = 0;
            for (int a = 0; a < size; a++) {
                int place = a;
                switch (which) {
                    case 'i':
                        sum += (int) p.substring(a).chars().filter(c -> c < p.charAt(place)).count();
                        break;
                    case 'd':
                        sum += a + 1 < size && p.charAt(a + 1) < p.charAt(a) ? 1 : 0;
                        break;
                    case 'm':
                        sum += a + 1 < size && p.charAt(a + 1) < p.charAt(a) ? a + 1 : 0;
                        break;
                    case 'p':
                        sum += a > 0 && a + 1 < size && p.charAt(a - 1) < p.charAt(a) && p.charAt(a + 1) < p.charAt(a)
                                ? 1 : 0;
                        break;
                    case 'l':
                        sum += p.substring(0, a).chars().allMatch(c -> c < p.charAt(place)) ? 1 : 0;
                        break;
                    case 'f':
                        sum += p.charAt(a) - '1' == a ? 1 : 0;
                        break;
                    default: {
                        int least = a;
                        for (int at = p.charAt(a) - '1'; at != a; at = p.charAt(at) - '1') {
                            least = Math.min(least, at);
                        }
                        sum += least == a ? 1 : 0;
                    }
                }
            }
            return sum;
        }

        private List<Integer> allOccurrences(int permutation, int pattern, int bits, int shades) {
            String whole = text(permutation);
            String small = text(pattern);
            need(bits >= 0 && bits <= 255 && shades >= 0);
            Map<String, Integer> found = new TreeMap<>();
            for (int places = 0; places < 1 << whole.length(); places++) {
                if (Integer.bitCount(places) == small.length() && standard(part(whole, places)).equals(small)
                        && isTight(part("01234567", places & 255), bits)
                        && isClear(whole, part("01234567", places), part(whole, places), shades)) {
                    found.put(part("01234567", places), places);
                }
            }
            return new ArrayList<>(found.values());
        }

        private static boolean isTight(String places, int bits) {
            for (int each = 0; each + 1 < places.length(); each++) {
                if ((bits >> each & 1) == 1 && places.charAt(each) + 1 != places.charAt(each + 1)) {
                    return false;
                }
            }
            return true;
        }

        private static boolean isClear(String whole, String places, String numbers, int shades) {
            for (int place = 0; place < whole.length(); place++) {
                char at = (char) ('0' + place);
                char number = whole.charAt(place);
                long behind = places.chars().filter(c -> c < at).count();
                long above = numbers.chars().filter(c -> c < number).count();
                BigInteger box = BigInteger.ONE.shiftLeft((int) (behind * (places.length() + 1) + above));
                if (places.indexOf(at) < 0 && BigInteger.valueOf(shades).and(box).signum() != 0) {
                    return false;
                }
            }
            return true;
        }

        int occurrences(int permutation, int pattern, int bits, int shades) {
            return allOccurrences(permutation, pattern, bits, shades).size();
        }

        int occurrenceAt(int permutation, int pattern, int bits, int shades, int index) {
            List<Integer> all = allOccurrences(permutation, pattern, bits, shades);
            if (index < 0 || index >= all.size()) {
                throw new NoSuchElementException();
            }
            return all.get(index);
        }

        int open() {
            return added(new ArrayList<>());
        }

        private int added(List<Integer> basis) {
            if (bases.size() == 6) {
                throw new IllegalStateException();
            }
            bases.add(basis);
            return bases.size() - 1;
        }

        private static List<Integer> least(List<Integer> patterns) {
            TreeSet<Integer> least = new TreeSet<>();
            for (int each : patterns) {
                if (patterns.stream().noneMatch(o -> o != each && contains("" + each, "" + o))) {
                    least.add(each);
                }
            }
            return new ArrayList<>(least);
        }

        private List<Integer> basis(int number) {
            if (number < 0 || number >= bases.size()) {
                throw new IndexOutOfBoundsException();
            }
            return bases.get(number);
        }

        int avoid(int number, int pattern) {
            List<Integer> all = new ArrayList<>(basis(number));
            text(pattern);
            all.add(pattern);
            List<Integer> least = least(all);
            if (least.size() > 12) {
                throw new IllegalStateException();
            }
            bases.set(number, least);
            return least.size();
        }

        int basisAt(int number, int index) {
            List<Integer> basis = basis(number);
            if (index < 0 || index >= basis.size()) {
                throw new NoSuchElementException();
            }
            return basis.get(index);
        }

        int meet(int number, int other) {
            List<Integer> all = new ArrayList<>(basis(number));
            all.addAll(basis(other));
            return addedIfFew(least(all));
        }

        private int addedIfFew(List<Integer> basis) {
            if (basis.size() > 12) {
                throw new UnsupportedOperationException();
            }
            return added(basis);
        }

        int join(int number, int other) {
            List<Integer> one = basis(number);
            List<Integer> two = basis(other);
            List<Integer> neither = new ArrayList<>();
            for (int size = 1; size <= 6; size++) {
                for (String each : ALL.get(size)) {
                    if (!isIn(one, each) && !isIn(two, each)
                            && neither.stream().noneMatch(o -> contains(each, "" + o))) {
                        neither.add(Integer.parseInt(each));
                    }
                }
            }
            return addedIfFew(neither);
        }

        private static boolean isIn(List<Integer> basis, String permutation) {
            for (int pattern : basis) {
                if (contains(permutation, "" + pattern)) {
                    return false;
                }
            }
            return true;
        }

        boolean isIn(int number, int permutation) {
            List<Integer> basis = basis(number);
            return isIn(basis, text(permutation));
        }

        private List<String> members(List<Integer> basis, int size) {
            return listed.computeIfAbsent(basis + "," + size, key -> {
                List<String> members = new ArrayList<>();
                for (String each : ALL.get(size)) {
                    if (isIn(basis, each)) {
                        members.add(each);
                    }
                }
                return members;
            });
        }

        private List<String> members(int number, int size, int least) {
            List<Integer> basis = basis(number);
            need(size >= least && size <= 7);
            return members(basis, size);
        }

        int count(int number, int size) {
            return members(number, size, 1).size();
        }

        int at(int number, int size, int index) {
            List<String> members = members(number, size, 1);
            if (index < 0 || index >= members.size()) {
                throw new NoSuchElementException();
            }
            return Integer.parseInt(members.get(index));
        }

        boolean areAsMany(int number, int other, int size) {
            basis(number);
            basis(other);
            need(size >= 1 && size <= 7);
            boolean same = true;
            for (int each = 1; each <= size; each++) {
                same &= count(number, each) == count(other, each);
            }
            return same;
        }

        int joint(int number, int size, char which, int value, char other, int otherValue) {
            basis(number);
            need("idmplfs".indexOf(which) >= 0 && "idmplfs".indexOf(other) >= 0);
            int many = 0;
            for (String each : members(number, size, 1)) {
                many += measure(each, which) == value && measure(each, other) == otherValue ? 1 : 0;
            }
            return many;
        }

        private static String run(String p, char machine) {
            if (p.isEmpty()) {
                return p;
            }
            int greatest = p.indexOf((char) p.chars().max().getAsInt());
            String ahead = p.substring(0, greatest);
            String behind = p.substring(greatest + 1);
            if (machine == 's') {
                return run(ahead, 's') + run(behind, 's') + p.charAt(greatest);
            }
            if (machine == 'b') {
                return run(ahead, 'b') + behind + p.charAt(greatest);
            }
            return machine == 'p' ? turnFalls(p) : passLine(p);
        }

        /** Each longest fall is turned round. */
        private static String turnFalls(String p) {
            StringBuilder all = new StringBuilder();
            int from = 0;
            for (int to = 1; to <= p.length(); to++) {
                if (to == p.length() || p.charAt(to) > p.charAt(to - 1)) {
                    all.append(new StringBuilder(p.substring(from, to)).reverse());
                    from = to;
                }
            }
            return all.toString();
        }

        /** The records wait, the others come at once, each behind the waiting ones that are less. */
        private static String passLine(String p) {
            StringBuilder all = new StringBuilder();
            List<Character> waiting = new ArrayList<>();
            for (int place = 0; place < p.length(); place++) {
                char number = p.charAt(place);
                if (p.substring(0, place).chars().allMatch(c -> c < number)) {
                    waiting.add(number);
                } else {
                    for (char each : waiting) {
                        all.append(each < number ? String.valueOf(each) : "");
                    }
                    waiting.removeIf(each -> each < number);
                    all.append(number);
                }
            }
            for (char each : waiting) {
                all.append(each);
            }
            return all.toString();
        }

        private static int runs(String p, char machine) {
            String end = ALL.get(p.length()).get(0);
            return p.equals(end) ? 0 : 1 + runs(run(p, machine), machine);
        }

        int pass(int permutation, char machine) {
            String p = text(permutation);
            need("spqb".indexOf(machine) >= 0);
            return Integer.parseInt(run(p, machine));
        }

        int passes(int permutation, char machine) {
            String p = text(permutation);
            need("spqb".indexOf(machine) >= 0);
            return runs(p, machine);
        }

        int sorted(int size, char machine, int passes) {
            need(size >= 1 && size <= 7 && "spqb".indexOf(machine) >= 0 && passes >= 0 && passes <= 9);
            return SORTED.computeIfAbsent(size + " " + machine + " " + passes, key -> {
                int many = 0;
                for (String each : ALL.get(size)) {
                    many += runs(each, machine) <= passes ? 1 : 0;
                }
                return many;
            });
        }

        private static List<String> children(List<Integer> basis, String p) {
            TreeSet<String> children = new TreeSet<>();
            for (int place = 0; place <= p.length(); place++) {
                String child = p.substring(0, place) + (p.length() + 1) + p.substring(place);
                if (isIn(basis, child)) {
                    children.add(child);
                }
            }
            return new ArrayList<>(children);
        }

        private List<String> children(int number, int permutation) {
            List<Integer> basis = basis(number);
            String p = text(permutation);
            need(p.length() < 8);
            if (!isIn(basis, p)) {
                throw new UnsupportedOperationException();
            }
            return children(basis, p);
        }

        int label(int number, int permutation) {
            return children(number, permutation).size();
        }

        int child(int number, int permutation, int index) {
            List<String> children = children(number, permutation);
            if (index < 0 || index >= children.size()) {
                throw new NoSuchElementException();
            }
            return Integer.parseInt(children.get(index));
        }

        boolean hasRule(int number, int size) {
            List<Integer> basis = basis(number);
            need(size >= 2 && size <= 6);
            Map<Integer, List<Integer>> rule = new HashMap<>();
            for (int each = 1; each < size; each++) {
                for (String p : members(basis, each)) {
                    List<Integer> labels = new ArrayList<>();
                    for (String child : children(basis, p)) {
                        labels.add(children(basis, child).size());
                    }
                    Collections.sort(labels);
                    List<Integer> before = rule.putIfAbsent(labels.size(), labels);
                    if (before != null && !before.equals(labels)) {
                        return false;
                    }
                }
            }
            return true;
        }

        /** The slots as ranges of places; answers the code of a number, or the most slots if it is 0. */
        private static int build(String p, int wanted) {
            List<int[]> slots = new ArrayList<>();
            slots.add(new int[] {0, p.length() - 1});
            int most = 1;
            for (int number = 1; number <= p.length(); number++) {
                int place = p.indexOf((char) ('0' + number));
                int index = 0;
                while (slots.get(index)[1] < place) {
                    index++;
                }
                int[] slot = slots.remove(index);
                boolean left = slot[0] < place;
                boolean right = place < slot[1];
                if (right) {
                    slots.add(index, new int[] {place + 1, slot[1]});
                }
                if (left) {
                    slots.add(index, new int[] {slot[0], place - 1});
                }
                if (number == wanted) {
                    return 10 * (index + 1) + (left && right ? 0 : right ? 1 : left ? 2 : 3);
                }
                most = Math.max(most, slots.size());
            }
            return most;
        }

        int slotted(int permutation, int number) {
            String p = text(permutation);
            need(number >= 1 && number <= p.length());
            return build(p, number);
        }

        int slots(int permutation) {
            return build(text(permutation), 0);
        }

        private static int intervalsOf(String p) {
            int many = 0;
            for (int from = 0; from < p.length(); from++) {
                for (int to = from + 2; to <= p.length(); to++) {
                    char[] numbers = p.substring(from, to).toCharArray();
                    Arrays.sort(numbers);
                    many += to - from < p.length() && "12345678".contains(new String(numbers)) ? 1 : 0;
                }
            }
            return many;
        }

        int intervals(int permutation) {
            return intervalsOf(text(permutation));
        }

        int simple(int number, int size) {
            return (int) members(number, size, 1).stream().filter(p -> intervalsOf(p) == 0).count();
        }

        int griddings(int permutation, int columns, int rows, int cells) {
            String p = text(permutation);
            need(columns >= 1 && columns <= 3 && rows >= 1 && rows <= 3 && cells >= 0);
            String told = String.valueOf(cells);
            need(told.length() <= columns * rows && told.chars().allMatch(c -> c <= '2'));
            while (told.length() < columns * rows) {
                told = "0" + told;
            }
            int many = 0;
            for (List<Integer> upright : lines(columns - 1, 0, p.length())) {
                for (List<Integer> level : lines(rows - 1, 0, p.length())) {
                    many += isGridded(p, columns, rows, told, upright, level) ? 1 : 0;
                }
            }
            return many;
        }

        private static List<List<Integer>> lines(int many, int from, int to) {
            List<List<Integer>> all = new ArrayList<>();
            if (many == 0) {
                all.add(new ArrayList<>());
                return all;
            }
            for (int first = from; first <= to; first++) {
                for (List<Integer> rest : lines(many - 1, first, to)) {
                    rest.add(0, first);
                    all.add(rest);
                }
            }
            return all;
        }

        private static boolean isGridded(String p, int columns, int rows, String told, List<Integer> upright,
                List<Integer> level) {
            for (int row = 0; row < rows; row++) {
                for (int column = 0; column < columns; column++) {
                    int left = column == 0 ? 0 : upright.get(column - 1);
                    int right = column == columns - 1 ? p.length() : upright.get(column);
                    int low = row == 0 ? 0 : level.get(row - 1);
                    int high = row == rows - 1 ? p.length() : level.get(row);
                    StringBuilder inside = new StringBuilder();
                    for (int place = left; place < right; place++) {
                        int number = p.charAt(place) - '0';
                        inside.append(number > low && number <= high ? String.valueOf(number) : "");
                    }
                    char[] order = inside.toString().toCharArray();
                    Arrays.sort(order);
                    String rising = new String(order);
                    String falling = new StringBuilder(rising).reverse().toString();
                    char kind = told.charAt(row * columns + column);
                    String due = kind == '0' ? "" : kind == '1' ? rising : falling;
                    if (!due.equals(inside.toString())) {
                        return false;
                    }
                }
            }
            return true;
        }

        private static int sign(String one, String other) {
            if (one.equals(other)) {
                return 1;
            }
            Integer known = SIGNS.get(one + "<" + other);
            if (known != null) {
                return known;
            }
            int sum = 0;
            for (int size = one.length(); size < other.length(); size++) {
                for (String each : ALL.get(size)) {
                    if (contains(each, one) && contains(other, each)) {
                        sum += sign(one, each);
                    }
                }
            }
            SIGNS.put(one + "<" + other, -sum);
            return -sum;
        }

        int signOf(int permutation, int other) {
            String one = text(permutation);
            String two = text(other);
            need(two.length() <= 6);
            if (!contains(two, one)) {
                throw new UnsupportedOperationException();
            }
            return sign(one, two);
        }

        int packing(int pattern, int size) {
            text(pattern);
            need(size >= 1 && size <= 7);
            int most = 0;
            for (String each : ALL.get(size)) {
                most = Math.max(most, occurrences(Integer.parseInt(each), pattern, 0, 0));
            }
            return most;
        }

        int growth(int number, int size, boolean over) {
            int above = members(number, size, 2).size();
            int below = members(number, size - 1, 1).size();
            if (below == 0) {
                throw new ArithmeticException();
            }
            int divisor = BigInteger.valueOf(above).gcd(BigInteger.valueOf(below)).intValue();
            return (over ? above : below) / divisor;
        }

        int universal(int size) {
            need(size >= 1 && size <= 3);
            for (int whole = 1; whole < 8; whole++) {
                for (String each : ALL.get(whole)) {
                    if (ALL.get(size).stream().allMatch(small -> contains(each, small))) {
                        return whole;
                    }
                }
            }
            return 8;
        }

        int sample(int number, int size) {
            List<String> members = members(number, size, 1);
            if (members.isEmpty()) {
                throw new NoSuchElementException();
            }
            z = z.multiply(BigInteger.valueOf(48271)).mod(BigInteger.valueOf(2147483647));
            return Integer.parseInt(members.get(z.mod(BigInteger.valueOf(members.size())).intValue()));
        }

        int seed(int next) {
            need(next >= 1 && next <= 2147483646);
            int before = z.intValue();
            z = BigInteger.valueOf(next);
            return before;
        }

        float share(int number, int size) {
            return (float) members(number, size, 1).size() / (float) ALL.get(size).size();
        }

        double mean(int number, int size, char which) {
            basis(number);
            need("idmplfs".indexOf(which) >= 0);
            List<String> members = members(number, size, 1);
            if (members.isEmpty()) {
                throw new ArithmeticException();
            }
            return (double) members.stream().mapToInt(p -> measure(p, which)).sum() / (double) members.size();
        }

        long checksum() {
            long sum = 7;
            for (List<Integer> basis : bases) {
                for (int pattern : basis) {
                    sum = sum * 31 + pattern;
                }
                sum = sum * 31 + basis.size();
            }
            return sum;
        }
    }
}
