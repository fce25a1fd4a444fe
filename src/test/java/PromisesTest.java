import java.util.NoSuchElementException;
import java.util.concurrent.Callable;

/** For each promise ordinary arguments, the edges that the document names, and wrong arguments. */
public final class PromisesTest {
    private static final Class<?> BAD_ARGUMENT = IllegalArgumentException.class;
    private static final Class<?> BAD_CLASS = IndexOutOfBoundsException.class;
    private static final Class<?> BAD_STATE = IllegalStateException.class;
    private static final Class<?> NO_ELEMENT = NoSuchElementException.class;
    private static final Class<?> UNSUPPORTED = UnsupportedOperationException.class;
    private static final Class<?> NO_FRACTION = ArithmeticException.class;
    private static final int[] NO_PERMUTATIONS = {0, -1, -21, 2, 9, 10, 11, 13, 20, 102, 120, 122, 124, 1223,
        12345679, 88888888, 123456789, 987654321, 1234567890, 2147483647, -2147483648};

    private static int wrong = 0;

    private static void due(int promise, Object got, Object want) {
        if (!got.equals(want)) {
            wrong++;
            System.out.println("promise " + promise + ": answered " + got + ", due is " + want);
            new Throwable().printStackTrace(System.out);
        }
    }

    private static void fails(int promise, Class<?> kind, Callable<?> call) {
        Object got;
        try {
            got = call.call();
        } catch (Exception e) {
            got = e.getClass();
        }
        due(promise, got, kind);
    }

    public static void main(String[] args) {
        examples();
        newObject();
        permutations();
        symmetries();
        products();
        inflations();
        statistics();
        occurrences();
        adjacentAndShaded();
        occurrenceAt();
        opening();
        avoiding();
        avoidingTooMany();
        bases();
        meets();
        joins();
        joinsAtTheEdge();
        membership();
        counts();
        listing();
        asMany();
        joints();
        machines();
        passes();
        sorted();
        labels();
        children();
        rules();
        slots();
        intervals();
        simples();
        griddings();
        griddingsRefused();
        signs();
        packings();
        growths();
        universals();
        samples();
        shares();
        means();
        checksums();
        truths();
        if (wrong > 0) {
            System.exit(1);
        }
    }

    private static AvoidanceLab labAvoiding(int... patterns) {
        AvoidanceLab x = new AvoidanceLab();
        x.open();
        for (int pattern : patterns) {
            x.avoid(0, pattern);
        }
        return x;
    }

    private static void examples() {
        AvoidanceLab x = new AvoidanceLab();
        due(9, x.open(), 0);
        due(10, x.avoid(0, 132), 1);
        due(15, x.count(0, 4), 14);
        due(14, x.isIn(0, 2413), false);
        due(11, x.basisAt(0, 0), 132);
        x = new AvoidanceLab();
        due(7, x.occurrences(2413, 12, 0, 0), 3);
        due(6, x.statistic(2413, 'i'), 3);
        due(27, x.intervals(2413), 0);
        x = new AvoidanceLab();
        due(19, x.pass(2341, 's'), 2314);
        due(20, x.passes(2341, 's'), 3);
        due(30, x.signOf(1, 12), -1);
    }

    private static void newObject() {
        AvoidanceLab x = new AvoidanceLab();
        fails(1, BAD_CLASS, () -> x.count(0, 1));
        due(1, x.checksum(), 7L);
        due(1, x.isTrue(), true);
        due(1, x.open(), 0);
        due(1, x.seed(1), 1);
    }

    private static void permutations() {
        AvoidanceLab x = new AvoidanceLab();
        for (int digits : new int[] {1, 12, 21, 132, 2413, 41352, 12345678, 87654321}) {
            due(2, x.isPermutation(digits), true);
        }
        for (int digits : NO_PERMUTATIONS) {
            due(2, x.isPermutation(digits), false);
        }
    }

    private static void symmetries() {
        AvoidanceLab x = new AvoidanceLab();
        due(3, x.symmetry(25134, 'r'), 43152);
        due(3, x.symmetry(25134, 'c'), 41532);
        due(3, x.symmetry(25134, 'i'), 31452);
        due(3, x.symmetry(1, 'r'), 1);
        due(3, x.symmetry(1, 'c'), 1);
        due(3, x.symmetry(1, 'i'), 1);
        due(3, x.symmetry(12345678, 'r'), 87654321);
        due(3, x.symmetry(23456781, 'i'), 81234567);
        due(3, x.symmetry(23456781, 'c'), 76543218);
        for (int digits : NO_PERMUTATIONS) {
            fails(3, BAD_ARGUMENT, () -> x.symmetry(digits, 'r'));
        }
        for (char which : new char[] {'R', 'x', 0, 'd', 65535}) {
            fails(3, BAD_ARGUMENT, () -> x.symmetry(12, which));
        }
    }

    private static void products() {
        AvoidanceLab x = new AvoidanceLab();
        due(4, x.product(2413, 2413), 4321);
        due(4, x.product(231, 213), 321);
        due(4, x.product(213, 231), 132);
        due(4, x.product(1, 1), 1);
        due(4, x.product(87654321, 23456781), 76543218);
        fails(4, BAD_ARGUMENT, () -> x.product(12, 1));
        fails(4, BAD_ARGUMENT, () -> x.product(12, 123));
        for (int digits : NO_PERMUTATIONS) {
            fails(4, BAD_ARGUMENT, () -> x.product(digits, 12));
            fails(4, BAD_ARGUMENT, () -> x.product(12, digits));
            fails(4, BAD_ARGUMENT, () -> x.product(digits, digits));
        }
    }

    private static void inflations() {
        AvoidanceLab x = new AvoidanceLab();
        due(5, x.inflate(2413, 0, 312), 423615);
        due(5, x.inflate(2413, 2, 21), 35214);
        due(5, x.inflate(2413, 3, 1), 2413);
        due(5, x.inflate(1, 0, 87654321), 87654321);
        due(5, x.inflate(1234567, 6, 21), 12345687);
        due(5, x.inflate(12345678, 7, 1), 12345678);
        fails(5, BAD_ARGUMENT, () -> x.inflate(1234567, 6, 312));
        fails(5, BAD_ARGUMENT, () -> x.inflate(12345678, 0, 87654321));
        fails(5, BAD_ARGUMENT, () -> x.inflate(12, -1, 12));
        fails(5, BAD_ARGUMENT, () -> x.inflate(12, 2, 12));
        fails(5, BAD_ARGUMENT, () -> x.inflate(12, 2147483647, 12));
        fails(5, BAD_ARGUMENT, () -> x.inflate(12, -2147483648, 12));
        for (int digits : NO_PERMUTATIONS) {
            fails(5, BAD_ARGUMENT, () -> x.inflate(digits, 0, 12));
            fails(5, BAD_ARGUMENT, () -> x.inflate(12, 0, digits));
        }
    }

    private static void statistics() {
        AvoidanceLab x = new AvoidanceLab();
        String which = "idmplfs";
        int[] permutations = {1, 21, 312, 35142, 41325, 12345678, 87654321, 21436587};
        int[][] want = {{0, 0, 0, 0, 1, 1, 1}, {1, 1, 1, 0, 1, 0, 1}, {2, 1, 1, 0, 1, 0, 1},
            {6, 2, 6, 2, 2, 1, 3}, {4, 2, 4, 1, 2, 2, 3}, {0, 0, 0, 0, 8, 8, 8}, {28, 7, 28, 0, 1, 0, 4},
            {4, 4, 16, 3, 4, 0, 4}};
        for (int index = 0; index < permutations.length; index++) {
            for (int each = 0; each < which.length(); each++) {
                due(6, x.statistic(permutations[index], which.charAt(each)), want[index][each]);
            }
        }
        fails(6, BAD_ARGUMENT, () -> x.statistic(12, 'x'));
        fails(6, BAD_ARGUMENT, () -> x.statistic(12, 'I'));
        fails(6, BAD_ARGUMENT, () -> x.statistic(12, (char) 0));
        for (int digits : NO_PERMUTATIONS) {
            fails(6, BAD_ARGUMENT, () -> x.statistic(digits, 'i'));
        }
    }

    private static void occurrences() {
        AvoidanceLab x = new AvoidanceLab();
        due(7, x.occurrences(2413, 21, 0, 0), 3);
        due(7, x.occurrences(2413, 1, 0, 0), 4);
        due(7, x.occurrences(2413, 2413, 0, 0), 1);
        due(7, x.occurrences(2413, 3142, 0, 0), 0);
        due(7, x.occurrences(2413, 24135, 0, 0), 0);
        due(7, x.occurrences(12345678, 1234, 0, 0), 70);
        due(7, x.occurrences(35142, 132, 0, 0), 2);
        for (int digits : NO_PERMUTATIONS) {
            fails(7, BAD_ARGUMENT, () -> x.occurrences(digits, 12, 0, 0));
            fails(7, BAD_ARGUMENT, () -> x.occurrences(12, digits, 0, 0));
        }
        fails(7, BAD_ARGUMENT, () -> x.occurrences(12, 12, -1, 0));
        fails(7, BAD_ARGUMENT, () -> x.occurrences(12, 12, 256, 0));
        fails(7, BAD_ARGUMENT, () -> x.occurrences(12, 12, 0, -1));
        fails(7, BAD_ARGUMENT, () -> x.occurrences(12, 12, 0, -2147483648));
    }

    private static void adjacentAndShaded() {
        AvoidanceLab x = new AvoidanceLab();
        due(7, x.occurrences(12345678, 123, 1, 0), 21);
        due(7, x.occurrences(12345678, 123, 2, 0), 21);
        due(7, x.occurrences(12345678, 123, 3, 0), 6);
        // The bits of the last place, and beyond, tell nothing.
        due(7, x.occurrences(12345678, 123, 252, 0), 56);
        due(7, x.occurrences(12345678, 123, 255, 0), 6);
        due(7, x.occurrences(12345678, 1, 255, 0), 8);
        due(7, x.occurrences(12345678, 12345678, 255, 0), 1);
        // The boxes of a pattern of one are 0 to 3: behind or not, above or not.
        due(7, x.occurrences(2413, 1, 0, 1), 2);
        due(7, x.occurrences(2413, 1, 0, 2), 2);
        due(7, x.occurrences(2413, 1, 0, 4), 2);
        due(7, x.occurrences(2413, 1, 0, 8), 2);
        due(7, x.occurrences(2413, 1, 0, 15), 0);
        due(7, x.occurrences(2413, 1, 0, 2147483632), 4);
        due(7, x.occurrences(1, 1, 0, 2147483647), 1);
        due(7, x.occurrences(1243, 12, 0, 16), 3);
        due(7, x.occurrences(1243, 12, 0, 8), 5);
        due(7, x.occurrences(3124, 12, 0, 1 << 6), 4);
        due(7, x.occurrences(3124, 12, 0, 1 << 7), 4);
        due(7, x.occurrences(3124, 12, 0, 1 << 8), 3);
        due(7, x.occurrences(1423, 12, 0, 1 << 7), 3);
        due(7, x.occurrences(1423, 12, 0, 1 << 5), 2);
        // The last box of a pattern of five would have the bit 35, which no shades tell.
        due(7, x.occurrences(123456, 12345, 0, 8), 6);
        due(7, x.occurrences(123456, 12345, 0, 1), 5);
        due(7, x.occurrences(123456, 12345, 0, 1 << 7), 5);
        due(7, x.occurrences(651234, 1234, 0, 1 << 4), 0);
        due(7, x.occurrences(651234, 1234, 0, 1 << 30), 1);
        due(7, x.occurrences(234561, 12345, 0, 1 << 30), 0);
        due(7, x.occurrences(234561, 12345, 0, 1 << 29), 1);
        due(7, x.occurrences(345612, 1234, 0, 1 << 20), 0);
        due(7, x.occurrences(12345678, 1234567, 0, 2147483647), 4);
        due(7, x.occurrences(4321, 21, 1, 16), 3);
    }

    private static void occurrenceAt() {
        AvoidanceLab x = new AvoidanceLab();
        int[] want = {3, 9, 12};
        for (int index = 0; index < want.length; index++) {
            int each = index;
            due(8, x.occurrenceAt(2413, 12, 0, 0, each), want[index]);
        }
        int[] pairs = {3, 5, 9, 6, 10, 12};
        for (int index = 0; index < pairs.length; index++) {
            due(8, x.occurrenceAt(1234, 12, 0, 0, index), pairs[index]);
        }
        due(8, x.occurrenceAt(12345678, 12345678, 0, 0, 0), 255);
        due(8, x.occurrenceAt(1234, 12, 1, 0, 1), 6);
        due(8, x.occurrenceAt(1234, 12, 0, 16, 2), 12);
        due(8, x.occurrenceAt(12345678, 1, 0, 0, 7), 128);
        fails(8, NO_ELEMENT, () -> x.occurrenceAt(2413, 12, 0, 0, 3));
        fails(8, NO_ELEMENT, () -> x.occurrenceAt(2413, 12, 0, 0, -1));
        fails(8, NO_ELEMENT, () -> x.occurrenceAt(2413, 12, 0, 0, 2147483647));
        fails(8, NO_ELEMENT, () -> x.occurrenceAt(2413, 12, 0, 0, -2147483648));
        fails(8, NO_ELEMENT, () -> x.occurrenceAt(12, 123, 0, 0, 0));
        fails(8, BAD_ARGUMENT, () -> x.occurrenceAt(2413, 12, 256, 0, -1));
        fails(8, BAD_ARGUMENT, () -> x.occurrenceAt(2413, 12, -1, 0, 0));
        fails(8, BAD_ARGUMENT, () -> x.occurrenceAt(2413, 12, 0, -1, 9));
        for (int digits : NO_PERMUTATIONS) {
            fails(8, BAD_ARGUMENT, () -> x.occurrenceAt(digits, 12, 0, 0, -1));
            fails(8, BAD_ARGUMENT, () -> x.occurrenceAt(12, digits, 0, 0, 99));
        }
    }

    private static void opening() {
        AvoidanceLab x = new AvoidanceLab();
        for (int number = 0; number < 6; number++) {
            due(9, x.open(), number);
        }
        fails(9, BAD_STATE, () -> x.open());
        fails(9, BAD_STATE, () -> x.open());
        fails(9, BAD_CLASS, () -> x.count(6, 1));
        due(9, x.count(5, 7), 5040);
    }

    private static void avoiding() {
        AvoidanceLab x = labAvoiding();
        due(10, x.avoid(0, 2413), 1);
        due(10, x.avoid(0, 2413), 1);
        due(10, x.avoid(0, 24135), 1);
        due(10, x.avoid(0, 1324), 2);
        due(10, x.avoid(0, 54321), 3);
        due(10, x.avoid(0, 132), 2);
        due(10, x.basisAt(0, 0), 132);
        due(10, x.basisAt(0, 1), 54321);
        due(10, x.avoid(0, 1), 1);
        due(10, x.avoid(0, 87654321), 1);
        due(10, x.count(0, 1), 0);
        fails(10, BAD_CLASS, () -> x.avoid(-1, 12));
        fails(10, BAD_CLASS, () -> x.avoid(1, 12));
        fails(10, BAD_CLASS, () -> x.avoid(1, 11));
        for (int digits : NO_PERMUTATIONS) {
            fails(10, BAD_ARGUMENT, () -> x.avoid(0, digits));
        }
    }

    private static final int[] DOZEN = {12345, 12354, 12435, 12453, 12534, 12543, 13245, 13254, 13425, 13452, 13524,
        13542};

    private static void avoidingTooMany() {
        AvoidanceLab x = labAvoiding(DOZEN);
        due(10, x.basisAt(0, 11), 13542);
        long before = x.checksum();
        fails(10, BAD_STATE, () -> x.avoid(0, 14235));
        due(10, x.checksum(), before);
        due(10, x.isIn(0, 14235), true);
        due(10, x.avoid(0, 12345), 12);
        due(10, x.avoid(0, 123456), 12);
        // Eight of them go, so that there is room.
        due(10, x.avoid(0, 1243), 5);
        AvoidanceLab y = labAvoiding(DOZEN);
        due(10, y.avoid(0, 1324), 8);
        fails(10, BAD_ARGUMENT, () -> y.avoid(0, 14));
        AvoidanceLab z = labAvoiding(DOZEN);
        fails(10, BAD_ARGUMENT, () -> z.avoid(0, 14));
        fails(10, BAD_CLASS, () -> z.avoid(1, 14235));
        // One goes and one comes: there are twelve again.
        due(10, z.avoid(0, 2431), 12);
    }

    private static void bases() {
        AvoidanceLab x = labAvoiding(54321, 231, 123, 1432);
        due(11, x.basisAt(0, 0), 123);
        due(11, x.basisAt(0, 1), 231);
        due(11, x.basisAt(0, 2), 1432);
        due(11, x.basisAt(0, 3), 54321);
        fails(11, NO_ELEMENT, () -> x.basisAt(0, 4));
        fails(11, NO_ELEMENT, () -> x.basisAt(0, -1));
        fails(11, NO_ELEMENT, () -> x.basisAt(0, 2147483647));
        fails(11, BAD_CLASS, () -> x.basisAt(1, -1));
        fails(11, BAD_CLASS, () -> x.basisAt(-1, 0));
        AvoidanceLab y = labAvoiding();
        fails(11, NO_ELEMENT, () -> y.basisAt(0, 0));
    }

    private static void meets() {
        AvoidanceLab x = labAvoiding(132, 54321);
        x.open();
        x.avoid(1, 1324);
        x.avoid(1, 321);
        due(12, x.meet(0, 1), 2);
        due(12, x.basisAt(2, 0), 132);
        due(12, x.basisAt(2, 1), 321);
        fails(12, NO_ELEMENT, () -> x.basisAt(2, 2));
        due(12, x.meet(1, 1), 3);
        due(12, x.basisAt(3, 1), 1324);
        due(12, x.basisAt(0, 1), 54321);
        // The new class is one of its own.
        due(12, x.avoid(2, 12), 2);
        due(12, x.basisAt(0, 0), 132);
        fails(12, BAD_CLASS, () -> x.meet(0, 4));
        fails(12, BAD_CLASS, () -> x.meet(-1, 0));
        due(12, x.meet(3, 0), 4);
        due(12, x.open(), 5);
        fails(12, BAD_STATE, () -> x.meet(0, 1));
        fails(12, BAD_CLASS, () -> x.meet(0, 6));

        AvoidanceLab y = labAvoiding(DOZEN);
        y.open();
        y.avoid(1, 54321);
        fails(12, UNSUPPORTED, () -> y.meet(0, 1));
        fails(12, UNSUPPORTED, () -> y.meet(1, 0));
        due(12, y.meet(0, 0), 2);
        y.open();
        y.open();
        y.open();
        fails(12, UNSUPPORTED, () -> y.meet(0, 1));
        fails(12, BAD_STATE, () -> y.meet(0, 0));
        due(12, y.avoid(1, 123), 2);
    }

    private static void joins() {
        AvoidanceLab x = labAvoiding(12);
        x.open();
        x.avoid(1, 21);
        due(13, x.join(0, 1), 2);
        int[] want = {132, 213, 231, 312};
        for (int index = 0; index < want.length; index++) {
            due(13, x.basisAt(2, index), want[index]);
        }
        fails(13, NO_ELEMENT, () -> x.basisAt(2, 4));
        due(13, x.join(0, 0), 3);
        due(13, x.basisAt(3, 0), 12);
        fails(13, BAD_CLASS, () -> x.join(4, 0));
        fails(13, BAD_CLASS, () -> x.join(0, -1));
        x.open();
        due(13, x.join(4, 0), 5);
        fails(13, NO_ELEMENT, () -> x.basisAt(5, 0));
        fails(13, BAD_STATE, () -> x.join(0, 1));
        fails(13, BAD_CLASS, () -> x.join(0, 6));

        // Patterns of sizes above 6 tell nothing of it.
        AvoidanceLab y = labAvoiding(1234567, 654321);
        due(13, y.join(0, 0), 1);
        due(13, y.basisAt(1, 0), 654321);
        fails(13, NO_ELEMENT, () -> y.basisAt(1, 1));
        y.open();
        y.avoid(2, 123);
        y.open();
        y.avoid(3, 321);
        fails(13, UNSUPPORTED, () -> y.join(2, 3));
        y.open();
        y.open();
        fails(13, UNSUPPORTED, () -> y.join(2, 3));
        fails(13, BAD_STATE, () -> y.join(2, 2));
    }

    private static AvoidanceLab labOfTwo(int[] first, int[] second) {
        AvoidanceLab x = labAvoiding(first);
        x.open();
        for (int pattern : second) {
            x.avoid(1, pattern);
        }
        return x;
    }

    private static void joinsAtTheEdge() {
        AvoidanceLab x = labOfTwo(new int[] {1}, new int[] {1});
        due(13, x.join(0, 1), 2);
        due(13, x.basisAt(2, 0), 1);
        due(13, x.count(2, 1), 0);
        AvoidanceLab y = labOfTwo(new int[] {132}, new int[] {2341});
        due(13, y.join(0, 1), 2);
        due(13, y.basisAt(2, 11) > 99999, true);
        fails(13, NO_ELEMENT, () -> y.basisAt(2, 12));
        // There are twelve up to the size 5, and more of the size 6.
        AvoidanceLab z = labOfTwo(new int[] {213, 231}, new int[] {12543, 4312});
        fails(13, UNSUPPORTED, () -> z.join(0, 1));
        fails(13, BAD_CLASS, () -> z.basisAt(2, 0));
    }

    private static void membership() {
        AvoidanceLab x = labAvoiding(2413, 3142);
        due(14, x.isIn(0, 2413), false);
        due(14, x.isIn(0, 25314), false);
        due(14, x.isIn(0, 13587642), true);
        due(14, x.isIn(0, 83617254), false);
        due(14, x.isIn(0, 1), true);
        x.open();
        due(14, x.isIn(1, 87654321), true);
        fails(14, BAD_CLASS, () -> x.isIn(2, 1));
        fails(14, BAD_CLASS, () -> x.isIn(-1, 0));
        for (int digits : NO_PERMUTATIONS) {
            fails(14, BAD_ARGUMENT, () -> x.isIn(0, digits));
        }
    }

    private static void counts() {
        AvoidanceLab x = labAvoiding(1234);
        int[] want = {1, 2, 6, 23, 103, 513, 2761};
        for (int size = 1; size <= 7; size++) {
            due(15, x.count(0, size), want[size - 1]);
        }
        x.avoid(0, 1);
        for (int size = 1; size <= 7; size++) {
            due(15, x.count(0, size), 0);
        }
        AvoidanceLab y = labAvoiding(123, 321);
        due(15, y.count(0, 7), 0);
        due(15, y.count(0, 4), 4);
        due(15, y.count(0, 3), 4);
        AvoidanceLab z = labAvoiding();
        due(15, z.count(0, 7), 5040);
        due(15, z.count(0, 1), 1);
        fails(15, BAD_ARGUMENT, () -> z.count(0, 0));
        fails(15, BAD_ARGUMENT, () -> z.count(0, 8));
        fails(15, BAD_ARGUMENT, () -> z.count(0, -2147483648));
        fails(15, BAD_ARGUMENT, () -> z.count(0, 2147483647));
        fails(15, BAD_CLASS, () -> z.count(1, 0));
        fails(15, BAD_CLASS, () -> z.count(-1, 4));
    }

    private static void listing() {
        AvoidanceLab x = labAvoiding(213);
        int[] want = {123, 132, 231, 312, 321};
        for (int index = 0; index < want.length; index++) {
            due(16, x.at(0, 3, index), want[index]);
        }
        due(16, x.at(0, 1, 0), 1);
        due(16, x.at(0, 7, 0), 1234567);
        due(16, x.at(0, 7, 428), 7654321);
        due(16, x.at(0, 4, 2), 1342);
        fails(16, NO_ELEMENT, () -> x.at(0, 3, 5));
        fails(16, NO_ELEMENT, () -> x.at(0, 3, -1));
        fails(16, NO_ELEMENT, () -> x.at(0, 7, 429));
        fails(16, NO_ELEMENT, () -> x.at(0, 7, 2147483647));
        fails(16, BAD_ARGUMENT, () -> x.at(0, 0, -1));
        fails(16, BAD_ARGUMENT, () -> x.at(0, 8, 0));
        fails(16, BAD_CLASS, () -> x.at(1, 8, 0));
        AvoidanceLab y = labAvoiding();
        due(16, y.at(0, 7, 5039), 7654321);
        due(16, y.at(0, 7, 720), 2134567);
        due(16, y.at(0, 5, 119), 54321);
    }

    private static void asMany() {
        AvoidanceLab x = labAvoiding(1342);
        x.open();
        x.avoid(1, 2413);
        due(17, x.areAsMany(0, 1, 7), true);
        x.open();
        x.avoid(2, 1324);
        due(17, x.areAsMany(0, 2, 5), true);
        due(17, x.areAsMany(0, 2, 6), false);
        due(17, x.areAsMany(0, 2, 7), false);
        due(17, x.areAsMany(2, 2, 7), true);
        x.open();
        x.avoid(3, 1);
        due(17, x.areAsMany(0, 3, 1), false);
        // Each size counts, not the last one alone.
        x.open();
        x.avoid(4, 12);
        x.avoid(4, 21);
        due(17, x.areAsMany(3, 4, 2), false);
        fails(17, BAD_ARGUMENT, () -> x.areAsMany(0, 1, 0));
        fails(17, BAD_ARGUMENT, () -> x.areAsMany(0, 1, 8));
        fails(17, BAD_CLASS, () -> x.areAsMany(0, 5, 0));
        fails(17, BAD_CLASS, () -> x.areAsMany(-1, 0, 3));
    }

    private static void joints() {
        AvoidanceLab x = labAvoiding();
        due(18, x.joint(0, 4, 'd', 1, 'd', 1), 11);
        due(18, x.joint(0, 4, 'd', 1, 'd', 2), 0);
        due(18, x.joint(0, 4, 'i', 3, 'm', 3), 2);
        due(18, x.joint(0, 7, 's', 1, 's', 1), 720);
        due(18, x.joint(0, 7, 'f', 0, 'f', 0), 1854);
        due(18, x.joint(0, 1, 'l', 1, 'f', 1), 1);
        due(18, x.joint(0, 3, 'p', -1, 'p', -1), 0);
        due(18, x.joint(0, 3, 'p', 1, 'd', 1), 2);
        fails(18, BAD_ARGUMENT, () -> x.joint(0, 3, 'x', 1, 'd', 1));
        fails(18, BAD_ARGUMENT, () -> x.joint(0, 3, 'd', 1, 'x', 1));
        fails(18, BAD_ARGUMENT, () -> x.joint(0, 0, 'd', 1, 'd', 1));
        fails(18, BAD_ARGUMENT, () -> x.joint(0, 8, 'd', 1, 'd', 1));
        fails(18, BAD_CLASS, () -> x.joint(1, 8, 'x', 1, 'd', 1));
        x.avoid(0, 132);
        due(18, x.joint(0, 4, 'd', 1, 'd', 1), 6);
    }

    private static void machines() {
        AvoidanceLab x = new AvoidanceLab();
        due(19, x.pass(35142, 's'), 31245);
        due(19, x.pass(35142, 'p'), 31524);
        due(19, x.pass(35142, 'q'), 13425);
        due(19, x.pass(35142, 'b'), 31425);
        due(19, x.pass(87654321, 's'), 12345678);
        due(19, x.pass(87654321, 'p'), 12345678);
        due(19, x.pass(87654321, 'q'), 76543218);
        due(19, x.pass(87654321, 'b'), 76543218);
        due(19, x.pass(23456781, 's'), 23456718);
        due(19, x.pass(23456781, 'q'), 12345678);
        due(19, x.pass(2413, 'q'), 1234);
        due(19, x.pass(3142, 'q'), 1234);
        due(19, x.pass(3421, 'q'), 2134);
        for (char machine : new char[] {'s', 'p', 'q', 'b'}) {
            due(19, x.pass(1, machine), 1);
            due(19, x.pass(12345678, machine), 12345678);
            for (int digits : NO_PERMUTATIONS) {
                fails(19, BAD_ARGUMENT, () -> x.pass(digits, machine));
            }
        }
        fails(19, BAD_ARGUMENT, () -> x.pass(12, 'S'));
        fails(19, BAD_ARGUMENT, () -> x.pass(12, (char) 0));
    }

    private static void passes() {
        AvoidanceLab x = new AvoidanceLab();
        due(20, x.passes(23456781, 's'), 7);
        due(20, x.passes(23456781, 'b'), 7);
        due(20, x.passes(23456781, 'q'), 1);
        due(20, x.passes(87654321, 's'), 1);
        due(20, x.passes(87654321, 'p'), 1);
        due(20, x.passes(87654321, 'q'), 7);
        due(20, x.passes(35142, 'p'), 3);
        for (char machine : new char[] {'s', 'p', 'q', 'b'}) {
            due(20, x.passes(1, machine), 0);
            due(20, x.passes(12345678, machine), 0);
            due(20, x.passes(21345678, machine), 1);
            for (int digits : NO_PERMUTATIONS) {
                fails(20, BAD_ARGUMENT, () -> x.passes(digits, machine));
            }
        }
        fails(20, BAD_ARGUMENT, () -> x.passes(12, 'r'));
    }

    private static void sorted() {
        AvoidanceLab x = new AvoidanceLab();
        for (char machine : new char[] {'s', 'p', 'q', 'b'}) {
            due(21, x.sorted(1, machine, 0), 1);
            due(21, x.sorted(7, machine, 0), 1);
            due(21, x.sorted(7, machine, 6), 5040);
            due(21, x.sorted(7, machine, 9), 5040);
            fails(21, BAD_ARGUMENT, () -> x.sorted(0, machine, 0));
            fails(21, BAD_ARGUMENT, () -> x.sorted(8, machine, 0));
            fails(21, BAD_ARGUMENT, () -> x.sorted(3, machine, -1));
            fails(21, BAD_ARGUMENT, () -> x.sorted(3, machine, 10));
        }
        due(21, x.sorted(7, 's', 1), 429);
        due(21, x.sorted(7, 's', 2), 1938);
        due(21, x.sorted(7, 'q', 1), 429);
        due(21, x.sorted(7, 'p', 1), 64);
        due(21, x.sorted(7, 'b', 1), 64);
        due(21, x.sorted(7, 'b', 2), 486);
        due(21, x.sorted(7, 's', 1), 429);
        int[][] once = {{1, 2, 5, 14, 42, 132, 429}, {1, 2, 4, 8, 16, 32, 64}, {1, 2, 5, 14, 42, 132, 429},
            {1, 2, 4, 8, 16, 32, 64}};
        for (int size = 1; size <= 7; size++) {
            for (int kind = 0; kind < 4; kind++) {
                due(21, x.sorted(size, "spqb".charAt(kind), 1), once[kind][size - 1]);
            }
        }
        fails(21, BAD_ARGUMENT, () -> x.sorted(3, 'x', 1));
    }

    private static void labels() {
        AvoidanceLab x = labAvoiding(132);
        due(22, x.label(0, 1), 2);
        due(22, x.label(0, 12), 2);
        due(22, x.label(0, 21), 3);
        due(22, x.label(0, 7654321), 8);
        due(22, x.label(0, 1234567), 2);
        fails(22, UNSUPPORTED, () -> x.label(0, 1432));
        fails(22, BAD_ARGUMENT, () -> x.label(0, 12345678));
        fails(22, BAD_ARGUMENT, () -> x.label(0, 87654312));
        fails(22, BAD_CLASS, () -> x.label(1, 12345678));
        for (int digits : NO_PERMUTATIONS) {
            fails(22, BAD_ARGUMENT, () -> x.label(0, digits));
        }
        x.open();
        due(22, x.label(1, 1234567), 8);
        x.avoid(1, 12);
        x.avoid(1, 21);
        due(22, x.label(1, 1), 0);
        AvoidanceLab y = labAvoiding(123);
        due(22, y.label(0, 213), 3);
        due(22, y.label(0, 231), 2);
        x.avoid(1, 1);
        fails(22, UNSUPPORTED, () -> x.label(1, 1));
    }

    private static void children() {
        AvoidanceLab x = labAvoiding(132);
        due(23, x.child(0, 213, 0), 2134);
        due(23, x.child(0, 213, 1), 4213);
        due(23, x.child(0, 321, 2), 3421);
        due(23, x.child(0, 1234567, 1), 81234567);
        fails(23, NO_ELEMENT, () -> x.child(0, 213, 2));
        fails(23, NO_ELEMENT, () -> x.child(0, 213, -1));
        fails(23, NO_ELEMENT, () -> x.child(0, 213, 2147483647));
        fails(23, UNSUPPORTED, () -> x.child(0, 1432, -1));
        fails(23, BAD_ARGUMENT, () -> x.child(0, 12345678, 0));
        fails(23, BAD_CLASS, () -> x.child(-1, 0, 0));
        fails(23, BAD_CLASS, () -> x.child(1, 12345678, 0));
        for (int digits : NO_PERMUTATIONS) {
            fails(23, BAD_ARGUMENT, () -> x.child(0, digits, 0));
        }
        x.open();
        due(23, x.child(1, 21, 0), 213);
        due(23, x.child(1, 21, 1), 231);
        due(23, x.child(1, 21, 2), 321);
    }

    private static void rules() {
        AvoidanceLab x = labAvoiding();
        for (int size = 2; size <= 6; size++) {
            due(24, x.hasRule(0, size), true);
        }
        x.avoid(0, 321);
        due(24, x.hasRule(0, 6), true);
        x.avoid(0, 1);
        due(24, x.hasRule(0, 6), true);
        AvoidanceLab y = labAvoiding(1342);
        due(24, y.hasRule(0, 2), true);
        due(24, y.hasRule(0, 6), false);
        fails(24, BAD_ARGUMENT, () -> y.hasRule(0, 1));
        fails(24, BAD_ARGUMENT, () -> y.hasRule(0, 7));
        fails(24, BAD_CLASS, () -> y.hasRule(1, 7));
        AvoidanceLab z = labAvoiding(231, 4123);
        due(24, z.count(0, 7) > 0, true);
        due(24, z.hasRule(0, 3), true);
        due(24, z.hasRule(0, 4), false);
        due(24, z.hasRule(0, 3), true);
        // It is the size 1, or the first one of the size 2, that is unlike the others.
        due(24, labAvoiding(123, 321).hasRule(0, 3), false);
        due(24, labAvoiding(123, 231).hasRule(0, 3), false);
    }

    private static void slots() {
        AvoidanceLab x = new AvoidanceLab();
        int[] want = {10, 10, 30, 43, 31, 13, 13, 13};
        for (int number = 1; number <= 8; number++) {
            due(25, x.slotted(62715834, number), want[number - 1]);
        }
        due(25, x.slotted(1, 1), 13);
        due(25, x.slotted(12, 1), 11);
        due(25, x.slotted(21, 1), 12);
        due(25, x.slotted(21, 2), 13);
        due(25, x.slotted(415263, 1), 10);
        due(25, x.slotted(415263, 2), 20);
        due(25, x.slotted(415263, 3), 32);
        due(25, x.slotted(415263, 4), 13);
        due(25, x.slotted(415263, 5), 13);
        due(25, x.slotted(415263, 6), 13);
        due(25, x.slotted(231, 1), 12);
        due(25, x.slotted(231, 2), 11);
        fails(25, BAD_ARGUMENT, () -> x.slotted(231, 0));
        fails(25, BAD_ARGUMENT, () -> x.slotted(231, 4));
        fails(25, BAD_ARGUMENT, () -> x.slotted(231, -2147483648));
        due(26, x.slots(1), 1);
        due(26, x.slots(415263), 3);
        due(26, x.slots(51627384), 4);
        due(26, x.slots(2413), 2);
        due(26, x.slots(12345678), 1);
        for (int digits : NO_PERMUTATIONS) {
            fails(25, BAD_ARGUMENT, () -> x.slotted(digits, 1));
            fails(26, BAD_ARGUMENT, () -> x.slots(digits));
        }
    }

    private static void intervals() {
        AvoidanceLab x = new AvoidanceLab();
        due(27, x.intervals(1), 0);
        due(27, x.intervals(12), 0);
        due(27, x.intervals(21), 0);
        due(27, x.intervals(132), 1);
        due(27, x.intervals(321), 2);
        due(27, x.intervals(25314), 0);
        due(27, x.intervals(24135), 1);
        due(27, x.intervals(12345678), 27);
        due(27, x.intervals(34512), 4);
        for (int digits : NO_PERMUTATIONS) {
            fails(27, BAD_ARGUMENT, () -> x.intervals(digits));
        }
    }

    private static void simples() {
        AvoidanceLab x = labAvoiding();
        int[] want = {1, 2, 0, 2, 6, 46, 338};
        for (int size = 1; size <= 7; size++) {
            due(28, x.simple(0, size), want[size - 1]);
        }
        x.avoid(0, 321);
        due(28, x.simple(0, 4), 2);
        fails(28, BAD_ARGUMENT, () -> x.simple(0, 0));
        fails(28, BAD_ARGUMENT, () -> x.simple(0, 8));
        fails(28, BAD_CLASS, () -> x.simple(1, 8));
        x.avoid(0, 1);
        due(28, x.simple(0, 1), 0);
    }

    private static void griddings() {
        AvoidanceLab x = new AvoidanceLab();
        due(29, x.griddings(1, 1, 1, 0), 0);
        due(29, x.griddings(1, 1, 1, 1), 1);
        due(29, x.griddings(1, 1, 1, 2), 1);
        due(29, x.griddings(1, 2, 1, 12), 2);
        due(29, x.griddings(1, 2, 1, 1), 1);
        due(29, x.griddings(1, 2, 1, 10), 1);
        due(29, x.griddings(1, 3, 1, 111), 3);
        due(29, x.griddings(1, 1, 3, 111), 3);
        due(29, x.griddings(1, 3, 3, 111111111), 9);
        due(29, x.griddings(12, 2, 1, 11), 3);
        due(29, x.griddings(21, 2, 1, 11), 1);
        due(29, x.griddings(21, 1, 2, 11), 1);
        // The lowest row is told first, and in it the left cell.
        due(29, x.griddings(123, 1, 2, 10), 1);
        due(29, x.griddings(213, 1, 2, 21), 2);
        due(29, x.griddings(213, 1, 2, 12), 0);
        due(29, x.griddings(213, 2, 1, 21), 2);
        due(29, x.griddings(213, 2, 1, 12), 0);
        due(29, x.griddings(2143, 2, 2, 2002), 1);
        due(29, x.griddings(2143, 2, 2, 220), 0);
        due(29, x.griddings(3412, 2, 2, 110), 1);
        due(29, x.griddings(3412, 2, 2, 1001), 0);
        due(29, x.griddings(12, 3, 1, 101), 3);
        due(29, x.griddings(12, 3, 1, 110), 3);
        due(29, x.griddings(12, 3, 1, 11), 3);
        due(29, x.griddings(132, 3, 1, 21), 0);
        due(29, x.griddings(132, 3, 1, 120), 2);
        due(29, x.griddings(132, 3, 1, 12), 2);
        due(29, x.griddings(132, 3, 1, 102), 2);
        due(29, x.griddings(132, 1, 3, 120), 2);
        due(29, x.griddings(132, 1, 3, 210), 0);
        due(29, x.griddings(213, 1, 3, 210), 2);
        due(29, x.griddings(12345678, 3, 3, 111111111), 2025);
        due(29, x.griddings(87654321, 3, 3, 222222222), 2025);
    }

    private static void griddingsRefused() {
        AvoidanceLab x = new AvoidanceLab();
        fails(29, BAD_ARGUMENT, () -> x.griddings(12, 0, 1, 1));
        fails(29, BAD_ARGUMENT, () -> x.griddings(12, 4, 1, 1));
        fails(29, BAD_ARGUMENT, () -> x.griddings(12, 1, 0, 1));
        fails(29, BAD_ARGUMENT, () -> x.griddings(12, 1, 4, 1));
        fails(29, BAD_ARGUMENT, () -> x.griddings(12, 0, 1, 0));
        fails(29, BAD_ARGUMENT, () -> x.griddings(12, 1, 0, 0));
        fails(29, BAD_ARGUMENT, () -> x.griddings(12, -1, -1, 1));
        fails(29, BAD_ARGUMENT, () -> x.griddings(12, 1, 1, 3));
        fails(29, BAD_ARGUMENT, () -> x.griddings(12, 1, 1, -1));
        fails(29, BAD_ARGUMENT, () -> x.griddings(12, 1, 1, -10));
        fails(29, BAD_ARGUMENT, () -> x.griddings(12, 1, 1, 10));
        fails(29, BAD_ARGUMENT, () -> x.griddings(12, 2, 1, 100));
        fails(29, BAD_ARGUMENT, () -> x.griddings(12, 2, 1, 19));
        fails(29, BAD_ARGUMENT, () -> x.griddings(12, 3, 3, 1111111111));
        fails(29, BAD_ARGUMENT, () -> x.griddings(12, 3, 3, -2147483648));
        for (int digits : NO_PERMUTATIONS) {
            fails(29, BAD_ARGUMENT, () -> x.griddings(digits, 1, 1, 1));
        }
    }

    private static void signs() {
        AvoidanceLab x = new AvoidanceLab();
        due(30, x.signOf(2413, 2413), 1);
        due(30, x.signOf(132, 1324), -1);
        due(30, x.signOf(12, 1324), 2);
        due(30, x.signOf(1, 2143), -1);
        due(30, x.signOf(1, 123456), 0);
        due(30, x.signOf(1, 246135), -6);
        due(30, x.signOf(12, 263514), 7);
        fails(30, UNSUPPORTED, () -> x.signOf(21, 123456));
        fails(30, UNSUPPORTED, () -> x.signOf(12345678, 12));
        fails(30, UNSUPPORTED, () -> x.signOf(12, 1));
        fails(30, BAD_ARGUMENT, () -> x.signOf(1234567, 1234567));
        fails(30, BAD_ARGUMENT, () -> x.signOf(21, 1234567));
        for (int digits : NO_PERMUTATIONS) {
            fails(30, BAD_ARGUMENT, () -> x.signOf(digits, 12));
            fails(30, BAD_ARGUMENT, () -> x.signOf(1, digits));
        }
    }

    private static void packings() {
        AvoidanceLab x = new AvoidanceLab();
        due(31, x.packing(1, 7), 7);
        due(31, x.packing(321, 7), 35);
        due(31, x.packing(132, 4), 3);
        due(31, x.packing(132, 6), 12);
        due(31, x.packing(132, 7), 20);
        due(31, x.packing(2413, 4), 1);
        due(31, x.packing(2413, 5), 2);
        due(31, x.packing(12, 1), 0);
        due(31, x.packing(87654321, 7), 0);
        fails(31, BAD_ARGUMENT, () -> x.packing(12, 0));
        fails(31, BAD_ARGUMENT, () -> x.packing(12, 8));
        for (int digits : NO_PERMUTATIONS) {
            fails(31, BAD_ARGUMENT, () -> x.packing(digits, 3));
        }
    }

    private static void growths() {
        AvoidanceLab x = labAvoiding();
        due(32, x.growthOver(0, 7), 7);
        due(33, x.growthUnder(0, 7), 1);
        x.avoid(0, 321);
        due(32, x.growthOver(0, 2), 2);
        due(33, x.growthUnder(0, 2), 1);
        due(32, x.growthOver(0, 3), 5);
        due(33, x.growthUnder(0, 3), 2);
        due(32, x.growthOver(0, 6), 22);
        due(33, x.growthUnder(0, 6), 7);
        x.avoid(0, 123);
        due(32, x.growthOver(0, 5), 0);
        due(33, x.growthUnder(0, 5), 1);
        fails(32, NO_FRACTION, () -> x.growthOver(0, 6));
        fails(33, NO_FRACTION, () -> x.growthUnder(0, 6));
        fails(32, BAD_ARGUMENT, () -> x.growthOver(0, 1));
        fails(33, BAD_ARGUMENT, () -> x.growthUnder(0, 1));
        fails(32, BAD_ARGUMENT, () -> x.growthOver(0, 8));
        fails(33, BAD_ARGUMENT, () -> x.growthUnder(0, 8));
        fails(32, BAD_CLASS, () -> x.growthOver(1, 8));
        fails(33, BAD_CLASS, () -> x.growthUnder(-1, 0));
        x.avoid(0, 1);
        fails(32, NO_FRACTION, () -> x.growthOver(0, 2));
        fails(33, NO_FRACTION, () -> x.growthUnder(0, 2));
    }

    private static void universals() {
        AvoidanceLab x = new AvoidanceLab();
        due(34, x.universal(1), 1);
        due(34, x.universal(2), 3);
        due(34, x.universal(3), 5);
        fails(34, BAD_ARGUMENT, () -> x.universal(0));
        fails(34, BAD_ARGUMENT, () -> x.universal(4));
        fails(34, BAD_ARGUMENT, () -> x.universal(-2147483648));
    }

    private static void samples() {
        AvoidanceLab x = labAvoiding();
        long z = 1;
        for (int each = 0; each < 50; each++) {
            z = z * 48271 % 2147483647;
            due(35, x.sample(0, 6), x.at(0, 6, (int) (z % 720)));
        }
        due(36, x.seed(2147483646), (int) z);
        due(35, x.sample(0, 7), x.at(0, 7, (int) (2147483646L * 48271 % 2147483647 % 5040)));
        due(36, x.seed(5), (int) (2147483646L * 48271 % 2147483647));
        fails(36, BAD_ARGUMENT, () -> x.seed(0));
        fails(36, BAD_ARGUMENT, () -> x.seed(-1));
        fails(36, BAD_ARGUMENT, () -> x.seed(2147483647));
        fails(35, BAD_ARGUMENT, () -> x.sample(0, 0));
        fails(35, BAD_ARGUMENT, () -> x.sample(0, 8));
        fails(35, BAD_CLASS, () -> x.sample(1, 8));
        x.avoid(0, 12);
        due(35, x.sample(0, 7), 7654321);
        due(36, x.seed(9), 5 * 48271);
        x.avoid(0, 21);
        fails(35, NO_ELEMENT, () -> x.sample(0, 2));
        // What is refused leaves z as it is.
        due(36, x.seed(1), 9);
    }

    private static void shares() {
        AvoidanceLab x = labAvoiding();
        due(37, x.share(0, 7), 1f);
        x.avoid(0, 1324);
        due(37, x.share(0, 4), 23f / 24f);
        due(37, x.share(0, 7), 2762f / 5040f);
        x.avoid(0, 1);
        due(37, x.share(0, 1), 0f);
        fails(37, BAD_ARGUMENT, () -> x.share(0, 0));
        fails(37, BAD_ARGUMENT, () -> x.share(0, 8));
        fails(37, BAD_CLASS, () -> x.share(1, 0));
    }

    private static void means() {
        AvoidanceLab x = labAvoiding();
        due(38, x.mean(0, 7, 'i'), 10.5);
        due(38, x.mean(0, 7, 'f'), 1.0);
        due(38, x.mean(0, 4, 's'), 50.0 / 24.0);
        due(38, x.mean(0, 7, 'p'), 5.0 / 3.0);
        x.avoid(0, 231);
        due(38, x.mean(0, 3, 'd'), 1.0);
        due(38, x.mean(0, 3, 'i'), 7.0 / 5.0);
        x.avoid(0, 12);
        due(38, x.mean(0, 7, 'm'), 21.0);
        fails(38, BAD_ARGUMENT, () -> x.mean(0, 0, 'i'));
        fails(38, BAD_ARGUMENT, () -> x.mean(0, 8, 'i'));
        fails(38, BAD_ARGUMENT, () -> x.mean(0, 3, 'x'));
        fails(38, BAD_CLASS, () -> x.mean(1, 8, 'x'));
        x.avoid(0, 1);
        fails(38, NO_FRACTION, () -> x.mean(0, 3, 'i'));
        fails(38, BAD_ARGUMENT, () -> x.mean(0, 3, 'y'));
    }

    private static void checksums() {
        AvoidanceLab x = new AvoidanceLab();
        due(39, x.checksum(), 7L);
        x.open();
        due(39, x.checksum(), 7L * 31);
        x.avoid(0, 321);
        x.avoid(0, 132);
        long sum = ((7L * 31 + 132) * 31 + 321) * 31 + 2;
        due(39, x.checksum(), sum);
        x.open();
        due(39, x.checksum(), sum * 31);
        x.avoid(1, 12);
        due(39, x.checksum(), (sum * 31 + 12) * 31 + 1);
    }

    private static void truths() {
        AvoidanceLab x = new AvoidanceLab();
        due(40, x.isTrue(), true);
        x.open();
        due(40, x.isTrue(), true);
        x.avoid(0, 1342);
        x.open();
        x.avoid(1, 1);
        x.open();
        x.avoid(2, 54321);
        x.avoid(2, 123);
        x.meet(0, 2);
        x.join(0, 2);
        due(40, x.isTrue(), true);
    }
}
