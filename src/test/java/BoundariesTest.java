import java.nio.file.Files;
import java.nio.file.Path;
import java.util.NoSuchElementException;
import java.util.TreeMap;
import java.util.TreeSet;
import java.util.function.BiFunction;
import java.util.function.Function;
import java.util.function.Supplier;
import java.util.regex.Matcher;
import java.util.regex.Pattern;

/**
 * Each sentence of the document that names a boundary has a test of its own here. says(..), throwsIf(..) or ordered(..)
 * begins it by the document's words; what follows, up to the next one, is the test. At the end the document is looked
 * through for sentences of the terms, ranges, Throws lines and orders of exceptions that no test has named.
 */
public final class BoundariesTest {
    private static final Class<?> BAD_ARGUMENT = IllegalArgumentException.class;
    private static final Class<?> BAD_CLASS = IndexOutOfBoundsException.class;
    private static final Class<?> BAD_STATE = IllegalStateException.class;
    private static final Class<?> NO_ELEMENT = NoSuchElementException.class;
    private static final Class<?> UNSUPPORTED = UnsupportedOperationException.class;
    private static final Class<?> NO_FRACTION = ArithmeticException.class;
    private static final int LEAST = -2147483648;
    private static final int GREATEST = 2147483647;
    private static final int TERMS = 0;
    // Empty, below 1, of nine numbers, with a number above the size, with one twice, with a 0.
    private static final int[] NO_PERMUTATIONS = {0, -1, -12, -2413, LEAST, 123456789, 987654321, GREATEST, 2, 9, 13,
        24, 1235, 12345679, 92345678, 11, 122, 1223, 12345677, 11111111, 10, 20, 102, 120, 1230, 12345670, 10234567};
    private static final int[] DOZEN = {12345, 12354, 12435, 12453, 12534, 12543, 13245, 13254, 13425, 13452, 13524,
        13542};
    private static final int[] ANOTHER_DOZEN = {54321, 54312, 54231, 54213, 54132, 54123, 53421, 53412, 53241, 53214,
        53142, 53124};
    private static final String STATISTICS = "idmplfs";
    private static final String MACHINES = "spqb";

    private static final TreeMap<Integer, String> SECTIONS = new TreeMap<>();
    private static final TreeSet<String> OWED = new TreeSet<>();
    private static final Supplier<AvoidanceLab> NEW = AvoidanceLab::new;

    private static int wrong = 0;
    private static int checks = 1;
    private static int tests = 0;
    private static int promise = 0;
    private static String sentence = "";
    private static Class<?> kind = null;

    public static void main(String[] args) throws Exception {
        readDocument(Files.readString(Path.of("../shared/DOC.md")));
        terms();
        termsOfStatistics();
        termsOfPatterns();
        termsOfClasses();
        termsOfMachines();
        termsOfTreesAndSlots();
        termsOfGrids();
        termsOfNumbers();
        exceptionsChangeNothing();
        calls();
        newObjects();
        permutations();
        symmetries();
        products();
        inflations();
        statistics();
        occurrences();
        shades();
        occurrencesByIndex();
        openings();
        avoidings();
        bases();
        meets();
        joins();
        memberships();
        counts();
        listings();
        comparisons();
        joints();
        passes();
        sortings();
        labels();
        children();
        rules();
        slots();
        intervals();
        griddings();
        signs();
        packings();
        growths();
        universals();
        samples();
        shares();
        means();
        checksums();
        truths();
        endTest();
        for (String each : OWED) {
            wrong++;
            System.out.println("no test has named: promise " + each);
        }
        if (wrong > 0) {
            System.out.println(wrong + " wrong, in " + tests + " tests");
            System.exit(1);
        }
    }

    // ---- the document, and what each test is held to

    private static void readDocument(String document) {
        int from = 0;
        Matcher heads = Pattern.compile("(?m)^## Promise (\\d+): .*$|^## Not promised$").matcher(document);
        int section = TERMS;
        while (heads.find()) {
            SECTIONS.put(section, document.substring(from, heads.start()).replace('\n', ' '));
            if (section != TERMS) {
                oweLines(section, document.substring(from, heads.start()));
            }
            from = heads.end();
            section = heads.group(1) == null ? -1 : Integer.parseInt(heads.group(1));
        }
        require(SECTIONS.size() == 41, "the document has " + SECTIONS.size() + " sections");
        oweTerms(document.substring(document.indexOf("## Terms"), document.indexOf("Examples: ")));
        require(OWED.size() > 190, "the document was read as " + OWED);
    }

    /** Each part of a sentence of more than one word is owed. */
    private static void oweTerms(String text) {
        for (String line : text.substring("## Terms".length()).split("\n")) {
            for (String part : line.split("(?<=[.;]) ")) {
                if (part.contains(" ")) {
                    OWED.add(TERMS + " " + part.substring(0, part.length() - 1));
                }
            }
        }
    }

    /** A part is named by words of it. */
    private static void nameTerm(String words) {
        for (String some : words.split("(?<=[.;]) |[.;]$")) {
            OWED.removeIf(each -> each.startsWith(TERMS + " ") && each.contains(some.replaceAll("[.;]$", "")));
        }
    }

    private static void oweLines(int section, String text) {
        int refusals = 0;
        for (String line : text.split("\n")) {
            if (line.startsWith("Throws `")) {
                refusals++;
                String name = line.substring(8, line.indexOf('`', 8));
                for (String clause : line.substring(line.indexOf(" if ") + 4).split(", or |, ")) {
                    OWED.add(section + " " + name + " " + clause);
                }
            } else if (line.startsWith("- ")) {
                for (String part : line.substring(2).split("; ")) {
                    if (Pattern.compile("[0-9',]|\\bno\\b|\\bnot\\b").matcher(part).find()) {
                        OWED.add(section + " " + part);
                    }
                }
            }
        }
        if (refusals > 1) {
            OWED.add(section + " of several exceptions");
        }
    }

    private static void require(boolean holds, String what) {
        if (!holds) {
            wrong++;
            System.out.println(what);
        }
    }

    private static void endTest() {
        require(checks > 0, "promise " + promise + ", \"" + sentence + "\": nothing is tested");
        checks = 0;
    }

    private static void begin(int section, String words, String key) {
        endTest();
        promise = section;
        sentence = words;
        tests++;
        OWED.remove(section + " " + key);
    }

    /** Begins the test of a sentence, or of a part of it. */
    private static void says(int section, String words) {
        begin(section, words, words);
        if (section == TERMS) {
            nameTerm(words);
        }
        kind = null;
        require(SECTIONS.get(section).contains(words), "promise " + section + " does not say \"" + words + "\"");
    }

    /** Begins the test of one case of a Throws line. */
    private static void throwsIf(int section, Class<?> exception, String clause) {
        begin(section, exception.getSimpleName() + " if " + clause, exception.getSimpleName() + " " + clause);
        kind = exception;
        require(Pattern.compile("Throws `" + exception.getSimpleName() + "` if [^`]*" + Pattern.quote(clause))
                .matcher(SECTIONS.get(section)).find(), "promise " + section + " does not throw so: " + sentence);
    }

    /** Begins the test of which exception of a method comes first. */
    private static void ordered(int section) {
        begin(section, "If several exceptions apply, the exception listed first is thrown.", "of several exceptions");
        nameTerm(sentence);
        require(SECTIONS.get(TERMS).contains(sentence), "the document does not say so: " + sentence);
    }

    private static void due(Object got, Object want) {
        checks++;
        if (!got.equals(want)) {
            wrong++;
            System.out.println("promise " + promise + ", \"" + sentence + "\": answered " + got + ", due is " + want);
            new Throwable().printStackTrace(System.out);
        }
    }

    private static Object outcome(AvoidanceLab x, Function<AvoidanceLab, Object> call) {
        try {
            return call.apply(x);
        } catch (RuntimeException e) {
            return isThrownByHand(e) ? e.getClass() : "the machine's " + e;
        }
    }

    /** An exception of the library, or of a division, is none that the class throws itself. */
    private static boolean isThrownByHand(RuntimeException e) {
        StackTraceElement[] trace = e.getStackTrace();
        return trace.length > 0 && trace[0].getClassName().startsWith("AvoidanceLab")
                && !"/ by zero".equals(e.getMessage());
    }

    /** The call throws what the test is of, again and again, and all is as if it had not been made. */
    private static void refused(Supplier<AvoidanceLab> made, Function<AvoidanceLab, Object> call) {
        AvoidanceLab x = made.get();
        due(outcome(x, call), kind);
        due(outcome(x, call), kind);
        due(state(x), state(made.get()));
    }

    private static void refusedAs(Class<?> exception, Supplier<AvoidanceLab> made,
            Function<AvoidanceLab, Object> call) {
        kind = exception;
        refused(made, call);
    }

    /** All that can be asked of an object: z, the bases, and what is listed of each class. */
    private static String state(AvoidanceLab x) {
        StringBuilder told = new StringBuilder();
        int z = x.seed(1);
        x.seed(z);
        told.append(z).append(' ').append(x.checksum());
        for (int number = 0; number < 7; number++) {
            int each = number;
            told.append(" |");
            for (int index = 0; index < 13; index++) {
                int at = index;
                Object pattern = outcome(x, y -> y.basisAt(each, at));
                told.append(' ').append(pattern);
                if (!(pattern instanceof Integer)) {
                    break;
                }
            }
            for (int size = 1; size <= 6; size += 5) {
                int of = size;
                told.append(' ').append(outcome(x, y -> y.count(each, of)));
            }
        }
        return told.toString();
    }

    private static Supplier<AvoidanceLab> classes(int many) {
        return () -> {
            AvoidanceLab x = new AvoidanceLab();
            for (int number = 0; number < many; number++) {
                x.open();
            }
            return x;
        };
    }

    /** One class for each basis. */
    private static Supplier<AvoidanceLab> avoiding(int[]... bases) {
        return () -> {
            AvoidanceLab x = new AvoidanceLab();
            for (int number = 0; number < bases.length; number++) {
                x.open();
                for (int pattern : bases[number]) {
                    x.avoid(number, pattern);
                }
            }
            return x;
        };
    }

    private static int[] basis(int... patterns) {
        return patterns;
    }

    private static void refusedWithNoPermutation(Supplier<AvoidanceLab> made,
            BiFunction<AvoidanceLab, Integer, Object> call) {
        for (int digits : NO_PERMUTATIONS) {
            refused(made, x -> call.apply(x, digits));
        }
    }

    private static void refusedWithNoClass(BiFunction<AvoidanceLab, Integer, Object> call) {
        for (int many : new int[] {0, 1, 6}) {
            for (int number : new int[] {many, many + 1, 7, -1, LEAST, GREATEST}) {
                refused(classes(many), x -> call.apply(x, number));
            }
        }
    }

    private static void refusedOutside(int least, int greatest, Supplier<AvoidanceLab> made,
            BiFunction<AvoidanceLab, Integer, Object> call) {
        for (int number : new int[] {least - 1, greatest + 1, least - 2, greatest + 2, -1, LEAST, GREATEST}) {
            if (number < least || number > greatest) {
                refused(made, x -> call.apply(x, number));
            }
        }
    }

    /** Each sign there is but the known ones. */
    private static void refusedWithOtherSigns(String known, Supplier<AvoidanceLab> made,
            BiFunction<AvoidanceLab, Character, Object> call) {
        AvoidanceLab x = made.get();
        for (int sign = 0; sign < 65536; sign++) {
            char which = (char) sign;
            if (known.indexOf(which) < 0) {
                Object got = outcome(x, y -> call.apply(y, which));
                if (got != kind) {
                    due("the sign " + sign + ": " + got, kind);
                }
            }
            x = sign % 400 == 399 ? made.get() : x;
        }
        refused(made, y -> call.apply(y, 'x'));
        refused(made, y -> call.apply(y, (char) 0));
        refused(made, y -> call.apply(y, (char) 65535));
    }

    // ---- what the terms say

    private static void terms() {
        says(TERMS, "What is counted by trees is what listing counts");
        for (int[] each : new int[][] {{}, {1}, {12}, {12, 21}, {1234567}, {2413, 3142}, {132, 4321, 54123}}) {
            AvoidanceLab grown = avoiding(each).get();
            int generated = grown.isIn(0, 1) ? 1 : 0;
            // Beyond the size 6 the labels would need more calls than an object has.
            for (int size = 1; size <= 6; size++) {
                due(generated, grown.count(0, size));
                generated = size < 6 ? labelsOf(grown, size) : 0;
            }
        }
        says(TERMS, "a basis is least");
        AvoidanceLab x = classes(1).get();
        for (int pattern : new int[] {87654321, 53142, 2413, 35142, 4321, 25314, 3142, 321, 7123456, 2143, 132}) {
            x.avoid(0, pattern);
            for (int index = 0; index < x.avoid(0, pattern); index++) {
                for (int other = 0; other < x.avoid(0, pattern); other++) {
                    int occurs = x.occurrences(x.basisAt(0, index), x.basisAt(0, other), 0, 0);
                    due(occurs > 0, index == other);
                }
            }
        }
        says(TERMS, "A permutation of a size of 1 to 8 is told by its numbers 1 to that size, each once, as digits");
        int found = 0;
        x = new AvoidanceLab();
        for (int digits = -500; digits < 70000; digits++) {
            found += x.isPermutation(digits) ? 1 : 0;
            x = digits % 400 == 0 ? new AvoidanceLab() : x;
        }
        due(found, 1 + 2 + 6 + 24 + 120);
        says(TERMS, "they are in order by size, then by that number");
        x = avoiding(basis(4321, 54321, 123, 1432)).get();
        x.avoid(0, 54123);
        due(x.basisAt(0, 0), 123);
        due(x.basisAt(0, 1), 1432);
        due(x.basisAt(0, 2), 4321);
        x = classes(1).get();
        int last = 0;
        for (int index = 0; index < 120; index++) {
            due(x.at(0, 5, index) > last, true);
            last = x.at(0, 5, index);
        }
        says(TERMS, "A pattern is a permutation.");
        due(x.occurrences(87654321, 87654321, 0, 0), 1);
        due(x.occurrences(87654321, 1, 0, 0), 8);
        due(x.avoid(0, 87654321), 1);
        says(TERMS, "'c' each one the size and 1 less it");
        due(x.symmetry(1, 'c'), 1);
        due(x.symmetry(12, 'c'), 21);
        due(x.symmetry(18273645, 'c'), 81726354);
        says(TERMS, "in the room of that number");
        due(x.inflate(132, 1, 1), 132);
        due(x.inflate(132, 0, 21), 2143);
        due(x.inflate(132, 1, 21), 1432);
        due(x.inflate(132, 2, 21), 1432);
        due(x.inflate(132, 2, 12), 1423);
    }

    /** How many children all of a size have. */
    private static int labelsOf(AvoidanceLab x, int size) {
        int sum = 0;
        for (int index = 0; index < x.count(0, size); index++) {
            sum += x.label(0, x.at(0, size, index));
        }
        return sum;
    }

    private static void statisticIs(char which, int... permutationsAndNumbers) {
        AvoidanceLab x = new AvoidanceLab();
        for (int index = 0; index < permutationsAndNumbers.length; index += 2) {
            due(x.statistic(permutationsAndNumbers[index], which), permutationsAndNumbers[index + 1]);
        }
    }

    private static void termsOfStatistics() {
        says(TERMS, "'i' inversions, pairs with the greater one ahead");
        statisticIs('i', 1, 0, 12, 0, 21, 1, 12345678, 0, 87654321, 28, 81234567, 7, 23456781, 7);
        says(TERMS, "'d' descents, places with a lesser one just behind");
        statisticIs('d', 1, 0, 12, 0, 21, 1, 231, 1, 12345678, 0, 87654321, 7, 12345687, 1, 21345678, 1);
        says(TERMS, "'m' the sum of these places, from 1");
        statisticIs('m', 1, 0, 12, 0, 21, 1, 132, 2, 12345678, 0, 87654321, 28, 12345687, 7, 21345678, 1);
        says(TERMS, "'p' peaks, places with lesser ones on both sides");
        statisticIs('p', 1, 0, 12, 0, 21, 0, 123, 0, 321, 0, 213, 0, 132, 1, 231, 1, 2314, 1, 13245, 1, 3421, 1,
                13254768, 3, 81726354, 3, 18273645, 3);
        says(TERMS, "'l' numbers greater than all ahead");
        statisticIs('l', 1, 1, 12, 2, 21, 1, 12345678, 8, 87654321, 1, 21436587, 4);
        says(TERMS, "'f' places that are their own numbers");
        statisticIs('f', 1, 1, 12, 2, 21, 0, 321, 1, 12345678, 8, 87654321, 0, 82345671, 6);
        says(TERMS, "'s' cycles");
        statisticIs('s', 1, 1, 12, 2, 21, 1, 12345678, 8, 23456781, 1, 81234567, 1, 87654321, 4, 21345678, 7);
    }

    private static void termsOfPatterns() {
        AvoidanceLab x = new AvoidanceLab();
        says(TERMS, "some places of a permutation at which the numbers are in the order of the pattern's");
        due(x.occurrences(1, 1, 0, 0), 1);
        due(x.occurrences(1, 12, 0, 0), 0);
        due(x.occurrences(12, 21, 0, 0), 0);
        due(x.occurrences(12345678, 1234, 0, 0), 70);
        due(x.occurrences(12345678, 12345678, 0, 0), 1);
        due(x.occurrences(1234567, 12345678, 0, 0), 0);
        says(TERMS, "Bits tell places of a pattern, 0 the first one, that must be just ahead of the next one");
        due(x.occurrences(12345678, 123, 0, 0), 56);
        due(x.occurrences(12345678, 123, 1, 0), 21);
        due(x.occurrenceAt(12345678, 123, 1, 0, 20), 0b11100000);
        due(x.occurrenceAt(1234, 123, 1, 0, 1), 0b1011);
        due(x.occurrenceAt(1234, 123, 2, 0, 1), 0b1101);
        due(x.occurrences(12345678, 123, 3, 0), 6);
        due(x.occurrences(12345678, 12345678, 127, 0), 1);
        says(TERMS, "the box x and y, told by the bit x times 1 more than the size of the pattern, and y more");
        // Beside one occurrence of 12, told by its places, the one other number is in each box in turn.
        int[][] boxes = {{123, 6, 0}, {213, 6, 1}, {312, 6, 2}, {213, 5, 3}, {123, 5, 4}, {132, 5, 5}, {231, 3, 6},
            {132, 3, 7}, {123, 3, 8}};
        for (int[] each : boxes) {
            for (int box = 0; box <= 30; box++) {
                due(isOccurrence(x, each[0], each[1], 1 << box), box != each[2]);
            }
            x = new AvoidanceLab();
        }
        says(TERMS, "in a shaded one no other number of the permutation lies");
        due(x.occurrences(12, 12, 0, GREATEST), 1);
        due(x.occurrences(12345678, 12345678, 255, GREATEST), 1);
        due(x.occurrences(12, 1, 0, 15), 0);
        says(TERMS, "Occurrences are in order by their places, first one first.");
        int[] pairs = {0b0011, 0b0101, 0b1001, 0b0110, 0b1010, 0b1100};
        for (int index = 0; index < pairs.length; index++) {
            due(x.occurrenceAt(4321, 21, 0, 0, index), pairs[index]);
        }
    }

    /** Whether the places are told for 12, among all its occurrences. */
    private static boolean isOccurrence(AvoidanceLab x, int permutation, int places, int shades) {
        for (int index = 0; index < x.occurrences(permutation, 12, 0, shades); index++) {
            if (x.occurrenceAt(permutation, 12, 0, shades, index) == places) {
                return true;
            }
        }
        return false;
    }

    private static void termsOfClasses() {
        says(TERMS, "At most 6 classes are numbered from 0");
        AvoidanceLab x = new AvoidanceLab();
        for (int number = 0; number < 6; number++) {
            due(x.open(), number);
        }
        due(outcome(x, y -> y.open()), BAD_STATE);
        due(x.count(5, 1), 1);
        due(outcome(x, y -> y.count(6, 1)), BAD_CLASS);
        says(TERMS, "each of all permutations that avoid its basis");
        due(x.avoid(3, 87654321), 1);
        due(x.isIn(3, 87654321), false);
        due(x.isIn(3, 87654312), true);
        due(x.count(3, 7), 5040);
        due(x.isIn(4, 87654321), true);
        says(TERMS, "a pattern that contains one of it is not taken");
        x = avoiding(basis(132)).get();
        due(x.avoid(0, 132), 1);
        due(x.avoid(0, 1243), 1);
        due(x.avoid(0, 87654132), 1);
        due(x.basisAt(0, 0), 132);
        says(TERMS, "and those that contain it go");
        x = avoiding(basis(12345678, 1243, 2143, 321)).get();
        due(x.avoid(0, 132), 3);
        due(x.basisAt(0, 0), 132);
        due(x.basisAt(0, 1), 321);
        due(x.basisAt(0, 2), 12345678);
        due(x.avoid(0, 1), 1);
        due(x.basisAt(0, 0), 1);
        due(x.count(0, 1), 0);
        due(x.avoid(0, 12345678), 1);
        says(TERMS, "The meet of two classes has all of both bases, likewise");
        x = avoiding(basis(132, 4321), basis(1243, 321), basis()).get();
        due(x.meet(0, 1), 3);
        due(x.basisAt(3, 0), 132);
        due(x.basisAt(3, 1), 321);
        due(outcome(x, y -> y.basisAt(3, 2)), NO_ELEMENT);
        due(x.meet(2, 2), 4);
        due(outcome(x, y -> y.basisAt(4, 0)), NO_ELEMENT);
        due(x.meet(2, 0), 5);
        due(x.basisAt(5, 1), 4321);
        says(TERMS, "the union has as its basis the least ones of a size up to 6 that are in neither");
        x = avoiding(basis(1234), basis(4321), basis(654321, 1234567)).get();
        // Each one up to the size 6, but not each of the size 10, avoids one of them.
        due(x.join(0, 1), 3);
        due(outcome(x, y -> y.basisAt(3, 0)), NO_ELEMENT);
        due(x.join(2, 2), 4);
        due(x.basisAt(4, 0), 654321);
        due(outcome(x, y -> y.basisAt(4, 1)), NO_ELEMENT);
        due(x.isIn(4, 1234567), true);
        due(x.isIn(2, 1234567), false);
    }

    private static void passIs(char machine, int... permutationsAndResults) {
        AvoidanceLab x = new AvoidanceLab();
        for (int index = 0; index < permutationsAndResults.length; index += 2) {
            due(x.pass(permutationsAndResults[index], machine), permutationsAndResults[index + 1]);
        }
    }

    private static void termsOfMachines() {
        says(TERMS, "lesser ones at the top of the stack come out first, then it goes in; at last all come out");
        passIs('s', 1, 1, 12, 12, 21, 12, 231, 213, 312, 123, 321, 123, 12345678, 12345678, 87654321, 12345678,
                23456781, 23456718, 5236417, 2351467);
        says(TERMS, "it empties if the top one is less than the next number, or at the end");
        passIs('p', 1, 1, 12, 12, 21, 12, 231, 213, 312, 132, 321, 123, 12345678, 12345678, 87654321, 12345678,
                23456781, 23456718, 5236417, 2531467);
        says(TERMS, "a number goes into an empty line, or behind its last one, if that is less");
        passIs('q', 1, 1, 12, 12, 12345678, 12345678);
        says(TERMS, "otherwise those of the line that are less than it come out first, and it comes out itself");
        passIs('q', 21, 12, 231, 123, 312, 123, 321, 213, 4231, 2314, 2413, 1234, 13245, 12345, 23456781, 12345678);
        says(TERMS, "at last the line comes out from its front");
        passIs('q', 87654321, 76543218, 45123, 12345, 45678123, 12345678, 5236417, 2341567);
        says(TERMS, "neighbours are put in order, from the first pair on, once");
        passIs('b', 1, 1, 12, 12, 21, 12, 321, 213, 12345687, 12345678, 87654321, 76543218, 21436587, 12345678);
    }

    private static void termsOfTreesAndSlots() {
        says(TERMS, "The children of a permutation in a class are those of the size 1 more in it");
        AvoidanceLab x = avoiding(basis(12, 21), basis(1234567), basis()).get();
        due(x.label(0, 1), 0);
        due(x.label(1, 123456), 6);
        due(x.child(1, 123456, 0), 1234576);
        due(x.label(2, 1), 2);
        due(x.label(2, 7654321), 8);
        says(TERMS, "how many there are is its label");
        due(x.child(2, 1, 1), 21);
        due(outcome(x, y -> y.child(2, 1, 2)), NO_ELEMENT);
        due(x.child(1, 123456, 5), 7123456);
        due(outcome(x, y -> y.child(1, 123456, 6)), NO_ELEMENT);
        due(outcome(x, y -> y.child(0, 1, 0)), NO_ELEMENT);
        says(TERMS, "any two permutations of it");
        // The children of 1 have the labels 2 and 2, those of 12 and of 21 have 0 and 2; all three have the label 2.
        due(avoiding(basis(123, 321)).get().hasRule(0, 2), true);
        due(avoiding(basis(123, 321)).get().hasRule(0, 3), false);
        // What one class has told counts for no other one, nor for itself later.
        AvoidanceLab two = avoiding(basis(123, 321), basis(132), basis()).get();
        for (int call = 0; call < 3; call++) {
            due(two.hasRule(0, 3), false);
            due(two.hasRule(1, 6), true);
            due(two.hasRule(2, 6), true);
        }
        two.avoid(0, 12);
        due(two.hasRule(0, 3), true);
        says(TERMS, "each as often");
        // The children of 12 have the labels 3, 3 and 4, those of 21 have 3, 4 and 4.
        due(avoiding(basis(2134, 1234, 3124)).get().hasRule(0, 2), true);
        due(avoiding(basis(2134, 1234, 3124)).get().hasRule(0, 3), false);
        says(TERMS, "of sizes less than that");
        // The labels of the children of a size see the size 2 more. So a single pattern of a size of 4 or more breaks
        // the rule by permutations of the size 2 less.
        int[][] bases = {{1234}, {12345}, {132, 4213}, {1234567}, {12345678}, {12}};
        int[] upTo = {2, 3, 4, 5, 6, 6};
        for (int index = 0; index < bases.length; index++) {
            AvoidanceLab y = avoiding(bases[index]).get();
            for (int size = 2; size <= 6; size++) {
                due(y.hasRule(0, size), size <= upTo[index]);
            }
        }
        says(TERMS, "slots, of which there is one at first");
        for (int permutation : new int[] {1, 12, 21, 12345678, 87654321, 51627384}) {
            due(x.slotted(permutation, 1) / 10, 1);
        }
        due(x.slots(1), 1);
        due(x.slots(87654321), 1);
        says(TERMS, "'f' if on none, which fills it");
        due(x.slotted(1, 1), 13);
        due(x.slotted(2413, 4), 13);
        due(x.slotted(51627384, 8), 13);
        due(x.slotted(51627384, 5), 13);
        says(TERMS, "'m' if later numbers of that slot come on both sides of it, which parts it into two");
        due(x.slotted(213, 1), 10);
        due(x.slotted(51627384, 1), 10);
        due(x.slotted(51627384, 2), 20);
        due(x.slotted(51627384, 3), 30);
        says(TERMS, "'l' if on its right side alone");
        due(x.slotted(12, 1), 11);
        due(x.slotted(2413, 2), 11);
        says(TERMS, "'r' if on its left side alone");
        due(x.slotted(21, 1), 12);
        due(x.slotted(51627384, 4), 42);
        says(TERMS, "The slots are numbered from the left, from 1.");
        due(x.slotted(84736251, 1), 12);
        due(x.slotted(84736251, 2), 10);
        due(x.slotted(84736251, 3), 10);
        due(x.slotted(84736251, 4), 10);
        due(x.slotted(84736251, 5), 43);
        due(x.slotted(84736251, 6), 33);
        says(TERMS, "An interval is some places one behind the other, 2 at least, not all");
        due(x.intervals(1), 0);
        due(x.intervals(12), 0);
        due(x.intervals(21), 0);
        due(x.intervals(123), 2);
        due(x.intervals(12345678), 27);
        due(x.intervals(87654321), 27);
        due(x.intervals(24135), 1);
        due(x.intervals(25314), 0);
        says(TERMS, "A permutation is simple if it has none.");
        int[] simple = {1, 2, 0, 2, 6, 46, 338};
        for (int size = 1; size <= 7; size++) {
            due(x.simple(2, size), simple[size - 1]);
        }
    }

    private static void griddingsAre(int... calls) {
        AvoidanceLab x = new AvoidanceLab();
        for (int index = 0; index < calls.length; index += 5) {
            due(x.griddings(calls[index], calls[index + 1], calls[index + 2], calls[index + 3]), calls[index + 4]);
        }
    }

    private static void termsOfGrids() {
        says(TERMS, "A grid has 1 to 3 columns and rows of cells");
        griddingsAre(1, 1, 1, 1, 1, 1, 3, 1, 111, 3, 1, 1, 3, 111, 3, 1, 3, 3, 111111111, 9, 1, 3, 3, 222222222, 9);
        says(TERMS, "told by digits from the lowest row up, in each from the left on");
        griddingsAre(12, 2, 1, 10, 1, 12, 2, 1, 1, 1, 21, 2, 2, 110, 1, 21, 2, 2, 1001, 0, 12, 2, 2, 1001, 3,
                12, 2, 2, 110, 2, 132, 1, 2, 12, 2, 132, 1, 2, 21, 0);
        says(TERMS, "0 empty, 1 rising, 2 falling");
        griddingsAre(1, 1, 1, 0, 0, 1, 3, 3, 0, 0, 12, 1, 1, 1, 1, 12, 1, 1, 2, 0, 21, 1, 1, 1, 0, 21, 1, 1, 2, 1,
                12345678, 1, 1, 1, 1, 87654321, 1, 1, 2, 1, 12345687, 1, 1, 1, 0);
        says(TERMS, "ahead of or behind all");
        griddingsAre(1, 2, 1, 1, 1, 1, 2, 1, 10, 1, 1, 1, 2, 1, 1, 1, 1, 2, 10, 1, 12, 2, 1, 11, 3, 12, 1, 2, 11, 3,
                12345678, 2, 1, 11, 9);
        says(TERMS, "in order, perhaps several at one");
        griddingsAre(1, 3, 1, 111, 3, 1, 3, 1, 101, 2, 1, 3, 1, 1, 1, 1, 3, 1, 10, 1, 1, 3, 1, 100, 1,
                12, 3, 1, 101, 3, 12, 1, 3, 101, 3, 12, 3, 1, 111, 6, 12345678, 3, 3, 111111111, 2025);
        says(TERMS, "none or one being rising and falling");
        griddingsAre(1, 2, 1, 12, 2, 1, 2, 1, 21, 2, 12, 2, 1, 22, 1, 21, 2, 1, 11, 1, 12, 2, 1, 12, 2,
                21, 2, 1, 12, 2);
    }

    private static void termsOfNumbers() {
        AvoidanceLab x = avoiding(basis(12), basis(12, 21), basis()).get();
        says(TERMS, "is 1 if they are the same");
        due(x.signOf(1, 1), 1);
        due(x.signOf(246135, 246135), 1);
        says(TERMS, "each that contains it and is contained in the other one, that one itself not");
        due(x.signOf(1, 21), -1);
        due(x.signOf(12, 123), -1);
        due(x.signOf(1, 123), 0);
        due(x.signOf(1, 132), 1);
        says(TERMS, "the greatest number of occurrences of it in permutations of that size");
        due(x.packing(1, 1), 1);
        due(x.packing(1, 7), 7);
        due(x.packing(12, 2), 1);
        due(x.packing(12, 1), 0);
        due(x.packing(1234567, 7), 1);
        due(x.packing(7654321, 7), 1);
        due(x.packing(4321, 7), 35);
        due(x.packing(87654321, 7), 0);
        says(TERMS, "as a fraction in lowest terms; 0 being 0 by 1");
        due(x.growthOver(0, 7), 1);
        due(x.growthUnder(0, 7), 1);
        due(x.growthOver(1, 2), 0);
        due(x.growthUnder(1, 2), 1);
        due(x.growthOver(2, 7), 7);
        due(x.growthUnder(2, 7), 1);
        says(TERMS, "z, 1 at first, becomes z times 48271 modulo 2147483647 by each sample");
        due(new AvoidanceLab().seed(5), 1);
        due(x.sample(0, 1), 1);
        due(x.seed(GREATEST - 1), 48271);
        due(x.sample(0, 1), 1);
        due(x.seed(44488), GREATEST - 48271);
        due(x.sample(0, 1), 1);
        due(x.seed(44489), 2147480248);
        // 44489 times 48271 is the first one beyond the modulus.
        due(x.sample(0, 1), 1);
        due(x.seed(1), 44872);
        says(TERMS, "in order, at the place that the new z is modulo their count");
        x.seed(1);
        due(x.sample(2, 3), x.at(2, 3, 48271 % 6));
        due(x.sample(2, 7), x.at(2, 7, 182605794 % 5040));
        due(x.sample(0, 7), 7654321);
    }

    /** Each of a few states, behind each refused call, is what it was; the other tests look at it too. */
    private static void exceptionsChangeNothing() {
        says(TERMS, "A method that throws an exception changes nothing.");
        AvoidanceLab x = avoiding(basis(), DOZEN, ANOTHER_DOZEN, basis(12, 21), basis(123), basis(2143)).get();
        String before = state(x);
        due(outcome(x, y -> y.open()), BAD_STATE);
        due(outcome(x, y -> y.avoid(1, 14235)), BAD_STATE);
        due(outcome(x, y -> y.avoid(0, 14)), BAD_ARGUMENT);
        due(outcome(x, y -> y.avoid(6, 12)), BAD_CLASS);
        due(outcome(x, y -> y.meet(1, 2)), UNSUPPORTED);
        due(outcome(x, y -> y.meet(0, 0)), BAD_STATE);
        due(outcome(x, y -> y.join(4, 5)), UNSUPPORTED);
        due(outcome(x, y -> y.join(0, 0)), BAD_STATE);
        due(outcome(x, y -> y.sample(3, 2)), NO_ELEMENT);
        due(outcome(x, y -> y.sample(0, 8)), BAD_ARGUMENT);
        due(outcome(x, y -> y.seed(0)), BAD_ARGUMENT);
        due(state(x), before);
        due(x.isTrue(), true);
    }

    private static void calls() {
        says(TERMS, "An object is used for at most 512 calls after it has been made");
        AvoidanceLab x = avoiding(basis(123)).get();
        long z = 1;
        for (int call = 3; call <= 512; call++) {
            z = z * 48271 % GREATEST;
            int got = x.sample(0, 4);
            due(got, avoiding(basis(123)).get().at(0, 4, (int) (z % 14)));
        }
        AvoidanceLab full = classes(6).get();
        for (int call = 7; call <= 512; call++) {
            due(outcome(full, y -> y.open()), BAD_STATE);
        }
        AvoidanceLab fallow = new AvoidanceLab();
        for (int call = 1; call <= 510; call++) {
            due(fallow.packing(132, 7), 20);
        }
        due(fallow.open(), 0);
        due(fallow.avoid(0, 12), 1);
        AvoidanceLab six = avoiding(DOZEN, DOZEN, DOZEN, DOZEN, DOZEN, DOZEN).get();
        for (int call = 79; call < 512; call++) {
            due(outcome(six, y -> y.join(0, 5)), BAD_STATE);
        }
        due(six.isTrue(), true);
    }

    // ---- what each promise says

    private static void newObjects() {
        says(1, "Creates a laboratory without classes.");
        AvoidanceLab x = new AvoidanceLab();
        for (int number = -1; number < 7; number++) {
            int each = number;
            due(outcome(x, y -> y.count(each, 1)), BAD_CLASS);
        }
        due(x.checksum(), 7L);
        due(x.isTrue(), true);
        due(x.seed(1), 1);
        due(x.open(), 0);
        due(new AvoidanceLab().open(), 0);
    }

    private static void permutations() {
        says(2, "Tells whether digits are a permutation.");
        AvoidanceLab x = new AvoidanceLab();
        for (int digits : new int[] {1, 12, 21, 123, 321, 12345678, 87654321, 51627384}) {
            due(x.isPermutation(digits), true);
        }
        for (int digits : NO_PERMUTATIONS) {
            due(x.isPermutation(digits), false);
        }
    }

    private static void symmetries() {
        AvoidanceLab x = new AvoidanceLab();
        says(3, "`which`: 'r', 'c' or 'i'");
        due(x.symmetry(1, 'r'), 1);
        due(x.symmetry(1, 'c'), 1);
        due(x.symmetry(1, 'i'), 1);
        due(x.symmetry(23456781, 'r'), 18765432);
        due(x.symmetry(23456781, 'c'), 76543218);
        due(x.symmetry(23456781, 'i'), 81234567);
        throwsIf(3, BAD_ARGUMENT, "it is no permutation");
        for (char which : new char[] {'r', 'c', 'i', 'x'}) {
            refusedWithNoPermutation(NEW, (y, digits) -> y.symmetry(digits, which));
        }
        throwsIf(3, BAD_ARGUMENT, "there is no such symmetry");
        refusedWithOtherSigns("rci", NEW, (y, which) -> y.symmetry(12, which));
    }

    private static void products() {
        AvoidanceLab x = new AvoidanceLab();
        says(TERMS, "at each place the number of the first one at the place that the second one tells");
        due(x.product(213, 231), 132);
        due(x.product(231, 213), 321);
        due(x.product(12345678, 51627384), 51627384);
        due(x.product(51627384, 12345678), 51627384);
        due(x.product(51627384, 23456781), 16273845);
        says(4, "`other`: another one, or the same");
        due(x.product(1, 1), 1);
        due(x.product(21, 21), 12);
        due(x.product(231, 231), 312);
        due(x.product(23456781, 87654321), 18765432);
        due(x.product(87654321, 87654321), 12345678);
        throwsIf(4, BAD_ARGUMENT, "one is no permutation");
        refusedWithNoPermutation(NEW, (y, digits) -> y.product(digits, 12));
        refusedWithNoPermutation(NEW, (y, digits) -> y.product(12, digits));
        refusedWithNoPermutation(NEW, (y, digits) -> y.product(digits, digits));
        throwsIf(4, BAD_ARGUMENT, "they are of unlike sizes");
        refused(NEW, y -> y.product(1, 12));
        refused(NEW, y -> y.product(12, 1));
        refused(NEW, y -> y.product(12345678, 1234567));
        refused(NEW, y -> y.product(1234567, 12345678));
    }

    private static void inflations() {
        AvoidanceLab x = new AvoidanceLab();
        says(5, "`place`: the place, from 0");
        due(x.inflate(1, 0, 1), 1);
        due(x.inflate(321, 0, 12), 3421);
        due(x.inflate(321, 2, 12), 4312);
        due(x.inflate(7654321, 6, 12), 87654312);
        due(x.inflate(12345678, 0, 1), 12345678);
        due(x.inflate(12345678, 7, 1), 12345678);
        throwsIf(5, BAD_ARGUMENT, "one is no permutation");
        refusedWithNoPermutation(NEW, (y, digits) -> y.inflate(digits, 0, 12));
        refusedWithNoPermutation(NEW, (y, digits) -> y.inflate(12, 0, digits));
        throwsIf(5, BAD_ARGUMENT, "there is no such place");
        refusedOutside(0, 0, NEW, (y, place) -> y.inflate(1, place, 1));
        refusedOutside(0, 2, NEW, (y, place) -> y.inflate(321, place, 12));
        refusedOutside(0, 7, NEW, (y, place) -> y.inflate(12345678, place, 1));
        throwsIf(5, BAD_ARGUMENT, "the size would be above 8");
        due(x.inflate(1, 0, 87654321), 87654321);
        due(x.inflate(12, 1, 7654321), 18765432);
        due(x.inflate(1234567, 0, 21), 21345678);
        refused(NEW, y -> y.inflate(12, 1, 87654321));
        refused(NEW, y -> y.inflate(1234567, 0, 321));
        refused(NEW, y -> y.inflate(12345678, 7, 12));
        refused(NEW, y -> y.inflate(12345678, 7, 12345678));
    }

    private static void statistics() {
        throwsIf(6, BAD_ARGUMENT, "it is no permutation");
        for (char which : (STATISTICS + "x").toCharArray()) {
            refusedWithNoPermutation(NEW, (y, digits) -> y.statistic(digits, which));
        }
        throwsIf(6, BAD_ARGUMENT, "there is no such statistic");
        refusedWithOtherSigns(STATISTICS, NEW, (y, which) -> y.statistic(12, which));
    }

    private static void occurrences() {
        AvoidanceLab x = new AvoidanceLab();
        says(7, "`bits`: the bits, 0 to 255");
        due(x.occurrences(123, 12, 0, 0), 3);
        due(x.occurrences(123, 12, 255, 0), 2);
        says(7, "those for the last place, and beyond, have no meaning");
        due(x.occurrences(12345678, 1, 255, 0), 8);
        due(x.occurrences(123, 12, 254, 0), 3);
        due(x.occurrences(123, 12, 2, 0), 3);
        due(x.occurrences(12345678, 123, 4, 0), 56);
        due(x.occurrences(12345678, 123, 252, 0), 56);
        due(x.occurrences(12345678, 123, 254, 0), 21);
        due(x.occurrences(12345678, 12345678, 128, 0), 1);
        due(x.occurrences(12345678, 1234567, 64, 0), 8);
        due(x.occurrences(12345678, 1234567, 32, 0), 7);
        due(x.occurrences(1, 12345678, 255, 0), 0);
        says(7, "`shades`: the shades, not below 0");
        due(x.occurrences(12, 1, 0, 0), 2);
        due(x.occurrences(12, 1, 0, 1), 1);
        due(x.occurrences(12, 12, 0, GREATEST), 1);
        throwsIf(7, BAD_ARGUMENT, "it is no permutation");
        refusedWithNoPermutation(NEW, (y, digits) -> y.occurrences(digits, 12, 0, 0));
        refusedWithNoPermutation(NEW, (y, digits) -> y.occurrences(12, digits, 0, 0));
        throwsIf(7, BAD_ARGUMENT, "a number is out of range");
        refusedOutside(0, 255, NEW, (y, bits) -> y.occurrences(123, 12, bits, 0));
        for (int shade : new int[] {-1, -2, LEAST}) {
            refused(NEW, y -> y.occurrences(123, 12, 0, shade));
        }
    }

    private static void shades() {
        AvoidanceLab x = new AvoidanceLab();
        says(7, "boxes that there are not have no meaning");
        int[] patterns = {1, 12, 123, 1234};
        int[] many = {8, 28, 56, 70};
        for (int size = 1; size <= 4; size++) {
            int last = (size + 1) * (size + 1) - 1;
            int beyond = GREATEST - ((1 << last + 1) - 1);
            due(x.occurrences(12345678, patterns[size - 1], 0, beyond), many[size - 1]);
            // In the last box there is what is behind all, and above all: but those with the greatest have none there.
            due(x.occurrences(12345678, patterns[size - 1], 0, 1 << last) < many[size - 1], true);
        }
        due(x.occurrences(12345678, 1, 0, 8), 1);
        due(x.occurrences(12345678, 1, 0, 16), 8);
        says(7, "boxes whose bits are beyond 30 cannot be told");
        // Behind all of 12345 the number 1 is in the box 30, and 2 in the box 31.
        due(x.occurrences(234561, 12345, 0, 1 << 30), 0);
        due(x.occurrences(234561, 12345, 0, GREATEST - (1 << 30)), 1);
        due(x.occurrences(134562, 12345, 0, GREATEST), 1);
        // Of each occurrence there is one other number, in the boxes 0, 7, 14, 21, 28 and 35.
        due(x.occurrences(123456, 12345, 0, GREATEST), 1);
        due(x.occurrenceAt(123456, 12345, 0, GREATEST, 0), 0b011111);
        due(x.occurrences(123456, 12345, 0, 1 << 3), 6);
        due(x.occurrences(2345671, 123456, 0, 1 << 10), 1);
        due(x.occurrences(12345678, 1234567, 0, GREATEST), 4);
        due(x.occurrences(12345678, 1234567, 0, 1), 7);
    }

    private static void occurrencesByIndex() {
        AvoidanceLab x = new AvoidanceLab();
        says(8, "`index`: the index, from 0");
        due(x.occurrenceAt(1, 1, 0, 0, 0), 1);
        due(x.occurrenceAt(123, 12, 0, 0, 0), 0b011);
        due(x.occurrenceAt(123, 12, 0, 0, 2), 0b110);
        due(x.occurrenceAt(12345678, 1234, 0, 0, 0), 0b00001111);
        due(x.occurrenceAt(12345678, 1234, 0, 0, 69), 0b11110000);
        says(8, "Returns the places as bits, the first one 1.");
        due(x.occurrenceAt(12345678, 1, 0, 0, 0), 1);
        due(x.occurrenceAt(12345678, 1, 0, 0, 7), 128);
        due(x.occurrenceAt(12345678, 12345678, 0, 0, 0), 255);
        throwsIf(8, BAD_ARGUMENT, "it is no permutation");
        refusedWithNoPermutation(NEW, (y, digits) -> y.occurrenceAt(digits, 12, 0, 0, 0));
        refusedWithNoPermutation(NEW, (y, digits) -> y.occurrenceAt(12, digits, 0, 0, 0));
        throwsIf(8, BAD_ARGUMENT, "a number is out of range");
        due(x.occurrenceAt(123, 12, 255, 0, 1), 0b110);
        due(x.occurrenceAt(12, 12, 255, GREATEST, 0), 0b11);
        refusedOutside(0, 255, NEW, (y, bits) -> y.occurrenceAt(123, 12, bits, 0, 0));
        for (int shade : new int[] {-1, -2, LEAST}) {
            refused(NEW, y -> y.occurrenceAt(123, 12, 0, shade, 0));
        }
        throwsIf(8, NO_ELEMENT, "there is none");
        refusedOutside(0, 2, NEW, (y, index) -> y.occurrenceAt(123, 12, 0, 0, index));
        refusedOutside(0, 1, NEW, (y, index) -> y.occurrenceAt(123, 12, 1, 0, index));
        refusedOutside(0, 69, NEW, (y, index) -> y.occurrenceAt(12345678, 1234, 0, 0, index));
        refused(NEW, y -> y.occurrenceAt(123, 21, 0, 0, 0));
        refused(NEW, y -> y.occurrenceAt(12, 123, 0, 0, 0));
        refused(NEW, y -> y.occurrenceAt(12, 1, 0, 15, 0));
        ordered(8);
        for (int index : new int[] {-1, 3, GREATEST}) {
            refusedAs(BAD_ARGUMENT, NEW, y -> y.occurrenceAt(122, 12, 0, 0, index));
            refusedAs(BAD_ARGUMENT, NEW, y -> y.occurrenceAt(123, 22, 0, 0, index));
            refusedAs(BAD_ARGUMENT, NEW, y -> y.occurrenceAt(123, 12, -1, 0, index));
            refusedAs(BAD_ARGUMENT, NEW, y -> y.occurrenceAt(123, 12, 256, 0, index));
            refusedAs(BAD_ARGUMENT, NEW, y -> y.occurrenceAt(123, 12, 0, -1, index));
        }
    }

    private static void openings() {
        throwsIf(9, BAD_STATE, "there are 6");
        due(classes(5).get().open(), 5);
        refused(classes(6), y -> y.open());
        AvoidanceLab x = avoiding(basis(12)).get();
        due(x.meet(0, 0), 1);
        due(x.join(0, 0), 2);
        due(x.open(), 3);
        due(x.meet(3, 1), 4);
        due(x.join(3, 2), 5);
        due(outcome(x, y -> y.open()), BAD_STATE);
        says(9, "Adds a class of all permutations.");
        due(x.count(3, 7), 5040);
        due(x.isIn(3, 87654321), true);
    }

    private static void avoidings() {
        throwsIf(10, BAD_CLASS, "there is no such class");
        refusedWithNoClass((y, number) -> y.avoid(number, 12));
        throwsIf(10, BAD_ARGUMENT, "it is no permutation");
        refusedWithNoPermutation(classes(1), (y, digits) -> y.avoid(0, digits));
        throwsIf(10, BAD_STATE, "there would be more than 12 then");
        AvoidanceLab x = classes(1).get();
        for (int index = 0; index < 12; index++) {
            due(x.avoid(0, DOZEN[index]), index + 1);
        }
        refused(avoiding(DOZEN), y -> y.avoid(0, 14235));
        refused(avoiding(DOZEN), y -> y.avoid(0, 87654321));
        refused(avoiding(DOZEN), y -> y.avoid(0, 4321));
        due(x.avoid(0, 12345), 12);
        due(x.avoid(0, 81234567), 12);
        throwsIf(10, BAD_STATE, "without those that go");
        // Of the dozen 13524 alone contains 2413.
        due(x.avoid(0, 2413), 12);
        due(x.basisAt(0, 0), 2413);
        due(x.avoid(0, 12), 1);
        due(x.avoid(0, 21), 2);
        due(x.avoid(0, 1), 1);
        ordered(10);
        refusedAs(BAD_CLASS, avoiding(DOZEN), y -> y.avoid(1, 122));
        refusedAs(BAD_CLASS, avoiding(DOZEN), y -> y.avoid(-1, 14235));
        refusedAs(BAD_CLASS, NEW, y -> y.avoid(0, 0));
        refusedAs(BAD_ARGUMENT, avoiding(DOZEN), y -> y.avoid(0, 14));
        refusedAs(BAD_ARGUMENT, avoiding(DOZEN), y -> y.avoid(0, 0));
    }

    private static void bases() {
        AvoidanceLab x = avoiding(basis(1), basis(), DOZEN).get();
        says(11, "`index`: the index, from 0");
        due(x.basisAt(0, 0), 1);
        due(x.basisAt(2, 0), 12345);
        due(x.basisAt(2, 11), 13542);
        throwsIf(11, BAD_CLASS, "there is no such class");
        refusedWithNoClass((y, number) -> y.basisAt(number, 0));
        throwsIf(11, NO_ELEMENT, "there is none");
        for (int index : new int[] {0, 1, -1, 12, LEAST, GREATEST}) {
            refused(classes(1), y -> y.basisAt(0, index));
        }
        refusedOutside(0, 0, avoiding(basis(1)), (y, index) -> y.basisAt(0, index));
        refusedOutside(0, 11, avoiding(DOZEN), (y, index) -> y.basisAt(0, index));
        // What has gone is there no more.
        due(x.avoid(2, 12), 1);
        due(outcome(x, y -> y.basisAt(2, 1)), NO_ELEMENT);
        ordered(11);
        refusedAs(BAD_CLASS, classes(1), y -> y.basisAt(1, 0));
        refusedAs(BAD_CLASS, classes(1), y -> y.basisAt(-1, -1));
    }

    private static void meets() {
        says(12, "`other`: another one, or the same");
        AvoidanceLab x = avoiding(DOZEN, basis(), basis(21)).get();
        due(x.meet(0, 0), 3);
        due(x.basisAt(3, 11), 13542);
        due(x.meet(1, 0), 4);
        due(x.basisAt(4, 11), 13542);
        due(x.meet(2, 0), 5);
        due(x.basisAt(5, 0), 21);
        due(x.basisAt(5, 1), 12345);
        due(outcome(x, y -> y.basisAt(5, 2)), NO_ELEMENT);
        throwsIf(12, BAD_CLASS, "there is no such class");
        refusedWithNoClass((y, number) -> y.meet(number, number));
        throwsIf(12, BAD_CLASS, "for either");
        refusedWithNoClass((y, number) -> y.meet(number, 0));
        refusedWithNoClass((y, number) -> y.meet(0, number));
        throwsIf(12, UNSUPPORTED, "its basis would have more than 12 patterns");
        refused(avoiding(DOZEN, basis(54321)), y -> y.meet(0, 1));
        refused(avoiding(DOZEN, basis(54321)), y -> y.meet(1, 0));
        refused(avoiding(DOZEN, ANOTHER_DOZEN), y -> y.meet(0, 1));
        // Just twelve, and none of them twice.
        due(avoiding(DOZEN, basis(12345, 123456)).get().meet(0, 1), 2);
        due(avoiding(DOZEN, basis(13542, 2413)).get().meet(0, 1), 2);
        due(avoiding(DOZEN, basis(2413)).get().meet(1, 0), 2);
        due(avoiding(DOZEN, basis(1)).get().meet(0, 1), 2);
        throwsIf(12, BAD_STATE, "there are 6");
        due(classes(5).get().meet(0, 4), 5);
        refused(classes(6), y -> y.meet(0, 5));
        refused(avoiding(DOZEN, DOZEN, basis(), basis(), basis(), basis()), y -> y.meet(0, 1));
        ordered(12);
        refusedAs(BAD_CLASS, classes(6), y -> y.meet(6, 0));
        refusedAs(BAD_CLASS, classes(6), y -> y.meet(0, -1));
        refusedAs(UNSUPPORTED, avoiding(DOZEN, ANOTHER_DOZEN, basis(), basis(), basis(), basis()),
                y -> y.meet(0, 1));
    }

    private static void joins() {
        says(13, "`other`: another one, or the same");
        AvoidanceLab x = avoiding(basis(1), DOZEN, basis(12), basis()).get();
        due(x.join(1, 1), 4);
        due(x.basisAt(4, 11), 13542);
        // The one of no permutation adds none.
        due(x.join(0, 2), 5);
        due(x.basisAt(5, 0), 12);
        due(outcome(x, y -> y.basisAt(5, 1)), NO_ELEMENT);
        says(13, "as far as its basis is told by sizes up to 6");
        x = avoiding(basis(123456, 7654321, 87654312), basis(1234567), basis(1)).get();
        due(x.join(0, 2), 3);
        due(x.basisAt(3, 0), 123456);
        due(outcome(x, y -> y.basisAt(3, 1)), NO_ELEMENT);
        due(x.join(1, 1), 4);
        due(outcome(x, y -> y.basisAt(4, 0)), NO_ELEMENT);
        due(x.join(2, 2), 5);
        due(x.basisAt(5, 0), 1);
        due(x.count(5, 1), 0);
        throwsIf(13, BAD_CLASS, "there is no such class");
        refusedWithNoClass((y, number) -> y.join(number, number));
        throwsIf(13, BAD_CLASS, "for either");
        refusedWithNoClass((y, number) -> y.join(number, 0));
        refusedWithNoClass((y, number) -> y.join(0, number));
        throwsIf(13, UNSUPPORTED, "its basis would have more than 12 patterns");
        // They would have 12, 13 and 36.
        due(avoiding(basis(132), basis(2341)).get().join(0, 1), 2);
        refused(avoiding(basis(123), basis(2143)), y -> y.join(0, 1));
        refused(avoiding(basis(123), basis(321)), y -> y.join(1, 0));
        throwsIf(13, BAD_STATE, "there are 6");
        due(classes(5).get().join(4, 0), 5);
        refused(classes(6), y -> y.join(0, 5));
        refused(avoiding(DOZEN, DOZEN, basis(), basis(), basis(), basis()), y -> y.join(0, 1));
        ordered(13);
        refusedAs(BAD_CLASS, classes(6), y -> y.join(6, 0));
        refusedAs(BAD_CLASS, classes(6), y -> y.join(0, -1));
        refusedAs(UNSUPPORTED, avoiding(basis(123), basis(2143), basis(), basis(), basis(), basis()),
                y -> y.join(0, 1));
    }

    private static void memberships() {
        says(14, "Tells whether a permutation is in a class.");
        AvoidanceLab x = avoiding(basis(), basis(1), basis(12345678), basis(21)).get();
        for (int permutation : new int[] {1, 12345678, 87654321}) {
            due(x.isIn(0, permutation), true);
            due(x.isIn(1, permutation), false);
        }
        due(x.isIn(2, 12345678), false);
        due(x.isIn(2, 1234567), true);
        due(x.isIn(2, 12345687), true);
        due(x.isIn(3, 12345687), false);
        due(x.isIn(3, 1), true);
        throwsIf(14, BAD_CLASS, "there is no such class");
        refusedWithNoClass((y, number) -> y.isIn(number, 12));
        throwsIf(14, BAD_ARGUMENT, "it is no permutation");
        refusedWithNoPermutation(classes(1), (y, digits) -> y.isIn(0, digits));
        ordered(14);
        refusedAs(BAD_CLASS, classes(1), y -> y.isIn(1, 11));
        refusedAs(BAD_CLASS, NEW, y -> y.isIn(-1, 0));
    }

    private static void counts() {
        says(15, "`size`: the size, 1 to 7");
        AvoidanceLab x = avoiding(basis(), basis(1), basis(7654321), basis(12, 21)).get();
        due(x.count(0, 1), 1);
        due(x.count(0, 7), 5040);
        due(x.count(1, 1), 0);
        due(x.count(1, 7), 0);
        due(x.count(2, 6), 720);
        due(x.count(2, 7), 5039);
        due(x.count(3, 1), 1);
        due(x.count(3, 2), 0);
        throwsIf(15, BAD_CLASS, "there is no such class");
        refusedWithNoClass((y, number) -> y.count(number, 1));
        throwsIf(15, BAD_ARGUMENT, "a number is out of range");
        refusedOutside(1, 7, classes(1), (y, size) -> y.count(0, size));
        ordered(15);
        refusedAs(BAD_CLASS, classes(1), y -> y.count(1, 8));
        refusedAs(BAD_CLASS, NEW, y -> y.count(-1, 0));
    }

    private static void listings() {
        AvoidanceLab x = avoiding(basis(), basis(7654321)).get();
        says(16, "`size`: the size, 1 to 7");
        due(x.at(0, 1, 0), 1);
        due(x.at(0, 2, 1), 21);
        due(x.at(0, 7, 0), 1234567);
        due(x.at(0, 7, 1), 1234576);
        says(16, "`index`: the index, from 0");
        due(x.at(0, 7, 5039), 7654321);
        due(x.at(1, 7, 5038), 7654312);
        due(x.at(0, 3, 0), 123);
        due(x.at(0, 3, 5), 321);
        throwsIf(16, BAD_CLASS, "there is no such class");
        refusedWithNoClass((y, number) -> y.at(number, 1, 0));
        throwsIf(16, BAD_ARGUMENT, "a number is out of range");
        refusedOutside(1, 7, classes(1), (y, size) -> y.at(0, size, 0));
        throwsIf(16, NO_ELEMENT, "there is none");
        refusedOutside(0, 0, classes(1), (y, index) -> y.at(0, 1, index));
        refusedOutside(0, 5, classes(1), (y, index) -> y.at(0, 3, index));
        refusedOutside(0, 5039, classes(1), (y, index) -> y.at(0, 7, index));
        refusedOutside(0, 5038, avoiding(basis(7654321)), (y, index) -> y.at(0, 7, index));
        refused(avoiding(basis(1)), y -> y.at(0, 1, 0));
        refused(avoiding(basis(12, 21)), y -> y.at(0, 2, 0));
        ordered(16);
        refusedAs(BAD_CLASS, classes(1), y -> y.at(1, 8, -1));
        refusedAs(BAD_CLASS, classes(1), y -> y.at(1, 0, 0));
        refusedAs(BAD_CLASS, classes(1), y -> y.at(1, 1, -1));
        refusedAs(BAD_ARGUMENT, classes(1), y -> y.at(0, 0, -1));
        refusedAs(BAD_ARGUMENT, classes(1), y -> y.at(0, 8, 50000));
        refusedAs(BAD_ARGUMENT, avoiding(basis(1)), y -> y.at(0, 8, 0));
    }

    private static void comparisons() {
        says(17, "`size`: the size, 1 to 7");
        AvoidanceLab x = avoiding(basis(), basis(1), basis(21), basis(1234567), basis(12345678), basis(132)).get();
        due(x.areAsMany(0, 1, 1), false);
        due(x.areAsMany(0, 2, 1), true);
        due(x.areAsMany(0, 2, 2), false);
        due(x.areAsMany(0, 3, 6), true);
        due(x.areAsMany(0, 3, 7), false);
        due(x.areAsMany(0, 4, 7), true);
        due(x.areAsMany(5, 5, 7), true);
        says(17, "as many permutations of each size up to one");
        // They have as many again from the size 3 on: none.
        AvoidanceLab z = avoiding(basis(12, 21), basis(12, 321), basis(123, 231, 312, 132, 213, 321)).get();
        due(z.areAsMany(0, 1, 1), true);
        due(z.areAsMany(0, 1, 3), false);
        due(z.count(0, 3), z.count(2, 3));
        due(z.areAsMany(0, 2, 1), true);
        due(z.areAsMany(0, 2, 3), false);
        due(z.areAsMany(0, 2, 7), false);
        throwsIf(17, BAD_CLASS, "there is no such class");
        refusedWithNoClass((y, number) -> y.areAsMany(number, number, 1));
        throwsIf(17, BAD_CLASS, "for either");
        refusedWithNoClass((y, number) -> y.areAsMany(number, 0, 1));
        refusedWithNoClass((y, number) -> y.areAsMany(0, number, 1));
        throwsIf(17, BAD_ARGUMENT, "a number is out of range");
        refusedOutside(1, 7, classes(2), (y, size) -> y.areAsMany(0, 1, size));
        refusedOutside(1, 7, avoiding(basis(1), basis()), (y, size) -> y.areAsMany(0, 1, size));
        ordered(17);
        refusedAs(BAD_CLASS, classes(1), y -> y.areAsMany(1, 0, 8));
        refusedAs(BAD_CLASS, classes(1), y -> y.areAsMany(0, 1, 8));
        refusedAs(BAD_CLASS, classes(1), y -> y.areAsMany(0, -1, 0));
    }

    private static void joints() {
        says(18, "`size`: the size, 1 to 7");
        AvoidanceLab x = avoiding(basis(), basis(1)).get();
        due(x.joint(0, 1, 'i', 0, 's', 1), 1);
        due(x.joint(0, 7, 'i', 21, 'd', 6), 1);
        due(x.joint(0, 7, 'i', 0, 'f', 7), 1);
        due(x.joint(0, 7, 's', 1, 'f', 0), 720);
        due(x.joint(1, 7, 'i', 0, 'f', 7), 0);
        says(18, "`other`: another one, or the same");
        due(x.joint(0, 3, 'd', 1, 'd', 1), 4);
        due(x.joint(0, 3, 'd', 1, 'd', 2), 0);
        due(x.joint(0, 3, 'd', -1, 'd', LEAST), 0);
        due(x.joint(0, 3, 'd', GREATEST, 'd', 1), 0);
        throwsIf(18, BAD_CLASS, "there is no such class");
        refusedWithNoClass((y, number) -> y.joint(number, 1, 'i', 0, 'd', 0));
        throwsIf(18, BAD_ARGUMENT, "there is no such statistic");
        refusedWithOtherSigns(STATISTICS, classes(1), (y, which) -> y.joint(0, 1, which, 0, 'd', 0));
        refusedWithOtherSigns(STATISTICS, classes(1), (y, which) -> y.joint(0, 1, 'i', 1, which, 0));
        refused(avoiding(basis(1)), y -> y.joint(0, 1, 'i', 0, 'x', 0));
        throwsIf(18, BAD_ARGUMENT, "the size is out of range");
        refusedOutside(1, 7, classes(1), (y, size) -> y.joint(0, size, 'i', 0, 'd', 0));
        ordered(18);
        refusedAs(BAD_CLASS, classes(1), y -> y.joint(1, 8, 'i', 0, 'd', 0));
        refusedAs(BAD_CLASS, classes(1), y -> y.joint(1, 1, 'x', 0, 'd', 0));
        refusedAs(BAD_CLASS, classes(1), y -> y.joint(-1, 1, 'i', 0, 'x', 0));
    }

    private static void passes() {
        AvoidanceLab x = new AvoidanceLab();
        says(19, "`machine`: 's', 'p', 'q' or 'b'");
        for (char machine : MACHINES.toCharArray()) {
            due(x.pass(1, machine), 1);
            due(x.pass(21, machine), 12);
            due(x.pass(12345678, machine), 12345678);
            due(x.pass(21436587, machine), 12345678);
        }
        throwsIf(19, BAD_ARGUMENT, "it is no permutation");
        for (char machine : (MACHINES + "x").toCharArray()) {
            refusedWithNoPermutation(NEW, (y, digits) -> y.pass(digits, machine));
        }
        throwsIf(19, BAD_ARGUMENT, "there is no such machine");
        refusedWithOtherSigns(MACHINES, NEW, (y, machine) -> y.pass(12, machine));
        says(20, "Returns how many, 0 if it is.");
        for (char machine : MACHINES.toCharArray()) {
            due(x.passes(1, machine), 0);
            due(x.passes(12, machine), 0);
            due(x.passes(12345678, machine), 0);
            due(x.passes(21, machine), 1);
            due(x.passes(23456781, machine), machine == 'q' ? 1 : 7);
        }
        due(x.passes(87654321, 's'), 1);
        due(x.passes(87654321, 'p'), 1);
        due(x.passes(87654321, 'q'), 7);
        due(x.passes(87654321, 'b'), 7);
        throwsIf(20, BAD_ARGUMENT, "it is no permutation");
        for (char machine : (MACHINES + "x").toCharArray()) {
            refusedWithNoPermutation(NEW, (y, digits) -> y.passes(digits, machine));
        }
        throwsIf(20, BAD_ARGUMENT, "there is no such machine");
        refusedWithOtherSigns(MACHINES, NEW, (y, machine) -> y.passes(12, machine));
    }

    private static void sortings() {
        AvoidanceLab x = new AvoidanceLab();
        says(21, "`size`: the size, 1 to 7");
        for (char machine : MACHINES.toCharArray()) {
            due(x.sorted(1, machine, 0), 1);
            due(x.sorted(1, machine, 9), 1);
            due(x.sorted(7, machine, 0), 1);
            due(x.sorted(7, machine, 6), 5040);
        }
        due(x.sorted(7, 's', 1), 429);
        due(x.sorted(7, 'p', 1), 64);
        due(x.sorted(7, 'q', 1), 429);
        due(x.sorted(7, 'b', 1), 64);
        says(21, "`passes`: how many passes, 0 to 9");
        for (char machine : MACHINES.toCharArray()) {
            due(x.sorted(2, machine, 0), 1);
            due(x.sorted(2, machine, 1), 2);
            due(x.sorted(7, machine, 9), 5040);
            due(x.sorted(7, machine, 5) < 5040, true);
        }
        throwsIf(21, BAD_ARGUMENT, "a number is out of range");
        refusedOutside(1, 7, NEW, (y, size) -> y.sorted(size, 's', 1));
        refusedOutside(0, 9, NEW, (y, passes) -> y.sorted(3, 's', passes));
        throwsIf(21, BAD_ARGUMENT, "there is no such machine");
        refusedWithOtherSigns(MACHINES, NEW, (y, machine) -> y.sorted(3, machine, 1));
    }

    private static void labels() {
        says(22, "Returns the label of a permutation.");
        AvoidanceLab x = avoiding(basis(), basis(12, 21), basis(87654321)).get();
        due(x.label(0, 1), 2);
        due(x.label(0, 7654321), 8);
        due(x.label(1, 1), 0);
        due(x.label(2, 7654321), 7);
        throwsIf(22, BAD_CLASS, "there is no such class");
        refusedWithNoClass((y, number) -> y.label(number, 12));
        throwsIf(22, BAD_ARGUMENT, "it is no permutation");
        refusedWithNoPermutation(classes(1), (y, digits) -> y.label(0, digits));
        throwsIf(22, BAD_ARGUMENT, "its size is 8");
        refused(classes(1), y -> y.label(0, 12345678));
        refused(classes(1), y -> y.label(0, 87654321));
        throwsIf(22, UNSUPPORTED, "it is not in the class");
        refused(avoiding(basis(1)), y -> y.label(0, 1));
        refused(avoiding(basis(132)), y -> y.label(0, 132));
        refused(avoiding(basis(132)), y -> y.label(0, 7654132));
        refused(avoiding(basis(1234567)), y -> y.label(0, 1234567));
        ordered(22);
        refusedAs(BAD_CLASS, classes(1), y -> y.label(1, 12345678));
        refusedAs(BAD_CLASS, classes(1), y -> y.label(-1, 122));
        refusedAs(BAD_CLASS, avoiding(basis(1)), y -> y.label(1, 1));
        refusedAs(BAD_ARGUMENT, avoiding(basis(1)), y -> y.label(0, 12345678));
        refusedAs(BAD_ARGUMENT, avoiding(basis(1)), y -> y.label(0, 11));
    }

    private static void children() {
        says(23, "`index`: the index, from 0");
        AvoidanceLab x = avoiding(basis(), basis(87654321, 76543218), basis(12)).get();
        due(x.child(0, 1, 0), 12);
        due(x.child(0, 1, 1), 21);
        due(x.child(0, 7654321, 0), 76543218);
        due(x.child(0, 7654321, 7), 87654321);
        due(x.child(1, 7654321, 0), 76543281);
        due(x.child(1, 7654321, 5), 78654321);
        due(x.child(2, 21, 0), 321);
        throwsIf(23, BAD_CLASS, "there is no such class");
        refusedWithNoClass((y, number) -> y.child(number, 12, 0));
        throwsIf(23, BAD_ARGUMENT, "it is no permutation");
        refusedWithNoPermutation(classes(1), (y, digits) -> y.child(0, digits, 0));
        throwsIf(23, BAD_ARGUMENT, "its size is 8");
        refused(classes(1), y -> y.child(0, 12345678, 0));
        refused(classes(1), y -> y.child(0, 87654321, 8));
        throwsIf(23, UNSUPPORTED, "it is not in the class");
        refused(avoiding(basis(1)), y -> y.child(0, 1, 0));
        refused(avoiding(basis(132)), y -> y.child(0, 7654132, 0));
        throwsIf(23, NO_ELEMENT, "there is none");
        refusedOutside(0, 1, classes(1), (y, index) -> y.child(0, 1, index));
        refusedOutside(0, 7, classes(1), (y, index) -> y.child(0, 7654321, index));
        refusedOutside(0, 0, avoiding(basis(12)), (y, index) -> y.child(0, 21, index));
        refused(avoiding(basis(12, 21)), y -> y.child(0, 1, 0));
        ordered(23);
        refusedAs(BAD_CLASS, classes(1), y -> y.child(1, 12345678, -1));
        refusedAs(BAD_CLASS, classes(1), y -> y.child(1, 11, 0));
        refusedAs(BAD_CLASS, avoiding(basis(1)), y -> y.child(-1, 1, 0));
        refusedAs(BAD_CLASS, classes(1), y -> y.child(-1, 1, 2));
        refusedAs(BAD_ARGUMENT, avoiding(basis(1)), y -> y.child(0, 12345678, 0));
        refusedAs(BAD_ARGUMENT, classes(1), y -> y.child(0, 12345678, -1));
        refusedAs(BAD_ARGUMENT, classes(1), y -> y.child(0, 11, 99));
        refusedAs(UNSUPPORTED, avoiding(basis(132)), y -> y.child(0, 132, -1));
        refusedAs(UNSUPPORTED, avoiding(basis(132)), y -> y.child(0, 132, 4));
    }

    private static void rules() {
        says(24, "`size`: the size, 2 to 6");
        AvoidanceLab x = avoiding(basis(), basis(1), basis(1234), basis(1234567)).get();
        due(x.hasRule(0, 2), true);
        due(x.hasRule(0, 6), true);
        due(x.hasRule(1, 2), true);
        due(x.hasRule(1, 6), true);
        due(x.hasRule(2, 2), true);
        due(x.hasRule(2, 6), false);
        due(x.hasRule(3, 6), false);
        throwsIf(24, BAD_CLASS, "there is no such class");
        refusedWithNoClass((y, number) -> y.hasRule(number, 2));
        throwsIf(24, BAD_ARGUMENT, "a number is out of range");
        refusedOutside(2, 6, classes(1), (y, size) -> y.hasRule(0, size));
        refusedOutside(2, 6, avoiding(basis(1)), (y, size) -> y.hasRule(0, size));
        ordered(24);
        refusedAs(BAD_CLASS, classes(1), y -> y.hasRule(1, 7));
        refusedAs(BAD_CLASS, classes(1), y -> y.hasRule(-1, 1));
    }

    private static void slots() {
        AvoidanceLab x = new AvoidanceLab();
        says(25, "`number`: the number, 1 to the size");
        due(x.slotted(1, 1), 13);
        due(x.slotted(21, 2), 13);
        due(x.slotted(12345678, 1), 11);
        due(x.slotted(12345678, 8), 13);
        throwsIf(25, BAD_ARGUMENT, "it is no permutation");
        refusedWithNoPermutation(NEW, (y, digits) -> y.slotted(digits, 1));
        throwsIf(25, BAD_ARGUMENT, "a number is out of range");
        refusedOutside(1, 1, NEW, (y, number) -> y.slotted(1, number));
        refusedOutside(1, 3, NEW, (y, number) -> y.slotted(231, number));
        refusedOutside(1, 8, NEW, (y, number) -> y.slotted(51627384, number));
        says(26, "Returns how many slots there are at most while a permutation is built.");
        due(x.slots(1), 1);
        due(x.slots(12), 1);
        due(x.slots(213), 2);
        due(x.slots(12345678), 1);
        due(x.slots(51627384), 4);
        due(x.slots(48372615), 4);
        throwsIf(26, BAD_ARGUMENT, "it is no permutation");
        refusedWithNoPermutation(NEW, (y, digits) -> y.slots(digits));
    }

    private static void intervals() {
        throwsIf(27, BAD_ARGUMENT, "it is no permutation");
        refusedWithNoPermutation(NEW, (y, digits) -> y.intervals(digits));
        says(28, "`size`: the size, 1 to 7");
        AvoidanceLab x = avoiding(basis(), basis(1), basis(2413, 3142)).get();
        due(x.simple(0, 1), 1);
        due(x.simple(0, 7), 338);
        due(x.simple(1, 1), 0);
        due(x.simple(2, 2), 2);
        due(x.simple(2, 7), 0);
        throwsIf(28, BAD_CLASS, "there is no such class");
        refusedWithNoClass((y, number) -> y.simple(number, 1));
        throwsIf(28, BAD_ARGUMENT, "a number is out of range");
        refusedOutside(1, 7, classes(1), (y, size) -> y.simple(0, size));
        ordered(28);
        refusedAs(BAD_CLASS, classes(1), y -> y.simple(1, 8));
        refusedAs(BAD_CLASS, classes(1), y -> y.simple(-1, 0));
    }

    private static void griddings() {
        says(29, "`cells`: the cells, leading zeros left out");
        griddingsAre(1, 1, 1, 0, 0, 1, 2, 1, 1, 1, 1, 2, 2, 1, 1, 1, 3, 3, 1, 1, 1, 3, 3, 100000000, 1,
                21, 3, 3, 2, 1, 21, 3, 3, 200000000, 1, 21, 3, 3, 1, 0);
        throwsIf(29, BAD_ARGUMENT, "it is no permutation");
        refusedWithNoPermutation(NEW, (y, digits) -> y.griddings(digits, 1, 1, 1));
        throwsIf(29, BAD_ARGUMENT, "a number is out of range");
        refusedOutside(1, 3, NEW, (y, columns) -> y.griddings(12, columns, 1, 1));
        refusedOutside(1, 3, NEW, (y, rows) -> y.griddings(12, 1, rows, 1));
        refusedOutside(1, 3, NEW, (y, columns) -> y.griddings(12, columns, 1, 0));
        refusedOutside(1, 3, NEW, (y, rows) -> y.griddings(12, 1, rows, 0));
        refusedOutside(1, 3, NEW, (y, both) -> y.griddings(12, both, both, 1));
        for (int cells : new int[] {-1, -2, -10, -11, LEAST, 3, 9, 13, 31, 131, 103, 111111113, 311111111}) {
            refused(NEW, y -> y.griddings(12, 3, 3, cells));
        }
        refusedOutside(0, 2, NEW, (y, cells) -> y.griddings(12, 1, 1, cells));
        throwsIf(29, BAD_ARGUMENT, "there are more digits than cells");
        refused(NEW, y -> y.griddings(12, 1, 1, 10));
        refused(NEW, y -> y.griddings(12, 1, 1, 11));
        refused(NEW, y -> y.griddings(12, 2, 1, 100));
        refused(NEW, y -> y.griddings(12, 1, 2, 111));
        refused(NEW, y -> y.griddings(12, 3, 2, 1000000));
        refused(NEW, y -> y.griddings(12, 2, 3, 1111111));
        refused(NEW, y -> y.griddings(12, 3, 3, 1000000000));
        refused(NEW, y -> y.griddings(12, 3, 3, 2111111111));
        griddingsAre(12, 1, 1, 1, 1, 12, 2, 1, 11, 3, 12, 1, 2, 11, 3, 12, 3, 2, 111111, 18, 12, 2, 3, 111111, 18,
                12, 3, 3, 111111111, 36);
    }

    private static void signs() {
        AvoidanceLab x = new AvoidanceLab();
        says(30, "`other`: another one that contains it, of a size up to 6");
        due(x.signOf(1, 1), 1);
        due(x.signOf(1, 123456), 0);
        due(x.signOf(123456, 123456), 1);
        due(x.signOf(12345, 123456), -1);
        throwsIf(30, BAD_ARGUMENT, "one is no permutation");
        refusedWithNoPermutation(NEW, (y, digits) -> y.signOf(digits, 12));
        refusedWithNoPermutation(NEW, (y, digits) -> y.signOf(1, digits));
        refusedWithNoPermutation(NEW, (y, digits) -> y.signOf(digits, digits));
        throwsIf(30, BAD_ARGUMENT, "the other one is of a greater size");
        refused(NEW, y -> y.signOf(1, 1234567));
        refused(NEW, y -> y.signOf(1234567, 1234567));
        refused(NEW, y -> y.signOf(1, 87654321));
        throwsIf(30, UNSUPPORTED, "it is not contained");
        refused(NEW, y -> y.signOf(12, 21));
        refused(NEW, y -> y.signOf(12, 1));
        refused(NEW, y -> y.signOf(21, 123456));
        refused(NEW, y -> y.signOf(1234567, 123456));
        refused(NEW, y -> y.signOf(12345678, 1));
        ordered(30);
        refusedAs(BAD_ARGUMENT, NEW, y -> y.signOf(21, 1234567));
        refusedAs(BAD_ARGUMENT, NEW, y -> y.signOf(12345678, 1234567));
        refusedAs(BAD_ARGUMENT, NEW, y -> y.signOf(22, 1));
        refusedAs(BAD_ARGUMENT, NEW, y -> y.signOf(21, 122));
    }

    private static void packings() {
        AvoidanceLab x = new AvoidanceLab();
        says(31, "`size`: the size, 1 to 7");
        due(x.packing(1, 1), 1);
        due(x.packing(21, 1), 0);
        due(x.packing(21, 7), 21);
        due(x.packing(1234567, 7), 1);
        due(x.packing(12345678, 7), 0);
        throwsIf(31, BAD_ARGUMENT, "it is no permutation");
        refusedWithNoPermutation(NEW, (y, digits) -> y.packing(digits, 3));
        throwsIf(31, BAD_ARGUMENT, "a number is out of range");
        refusedOutside(1, 7, NEW, (y, size) -> y.packing(12, size));
        refused(NEW, y -> y.packing(12345678, 8));
    }

    private static void growths() {
        for (int section = 32; section <= 33; section++) {
            boolean over = section == 32;
            BiFunction<AvoidanceLab, int[], Object> growth = (y, call) -> over ? y.growthOver(call[0], call[1])
                    : y.growthUnder(call[0], call[1]);
            says(section, "`size`: the size, 2 to 7");
            AvoidanceLab x = avoiding(basis(), basis(12, 21), basis(123, 321), basis(132)).get();
            due(growth.apply(x, new int[] {0, 2}), over ? 2 : 1);
            due(growth.apply(x, new int[] {0, 7}), over ? 7 : 1);
            due(growth.apply(x, new int[] {1, 2}), over ? 0 : 1);
            due(growth.apply(x, new int[] {2, 5}), over ? 0 : 1);
            due(growth.apply(x, new int[] {3, 7}), over ? 13 : 4);
            throwsIf(section, BAD_CLASS, "there is no such class");
            refusedWithNoClass((y, number) -> growth.apply(y, new int[] {number, 2}));
            throwsIf(section, BAD_ARGUMENT, "a number is out of range");
            refusedOutside(2, 7, classes(1), (y, size) -> growth.apply(y, new int[] {0, size}));
            throwsIf(section, NO_FRACTION, "the class has none of the size 1 less");
            refused(avoiding(basis(1)), y -> growth.apply(y, new int[] {0, 2}));
            refused(avoiding(basis(1)), y -> growth.apply(y, new int[] {0, 7}));
            refused(avoiding(basis(12, 21)), y -> growth.apply(y, new int[] {0, 3}));
            refused(avoiding(basis(123, 321)), y -> growth.apply(y, new int[] {0, 6}));
            ordered(section);
            refusedAs(BAD_CLASS, avoiding(basis(1)), y -> growth.apply(y, new int[] {1, 2}));
            refusedAs(BAD_CLASS, avoiding(basis(1)), y -> growth.apply(y, new int[] {-1, 8}));
            refusedAs(BAD_ARGUMENT, avoiding(basis(1)), y -> growth.apply(y, new int[] {0, 1}));
            refusedAs(BAD_ARGUMENT, avoiding(basis(1)), y -> growth.apply(y, new int[] {0, 8}));
        }
    }

    private static void universals() {
        says(34, "`size`: the size, 1 to 3");
        AvoidanceLab x = new AvoidanceLab();
        due(x.universal(1), 1);
        due(x.universal(2), 3);
        due(x.universal(3), 5);
        throwsIf(34, BAD_ARGUMENT, "a number is out of range");
        refusedOutside(1, 3, NEW, (y, size) -> y.universal(size));
    }

    private static void samples() {
        says(35, "`size`: the size, 1 to 7");
        AvoidanceLab x = avoiding(basis(), basis(12)).get();
        due(x.sample(0, 1), 1);
        due(x.sample(1, 7), 7654321);
        due(x.seed(GREATEST - 1), 182605794);
        due(x.sample(0, 7), x.at(0, 7, (GREATEST - 48271) % 5040));
        throwsIf(35, BAD_CLASS, "there is no such class");
        refusedWithNoClass((y, number) -> y.sample(number, 1));
        throwsIf(35, BAD_ARGUMENT, "a number is out of range");
        refusedOutside(1, 7, classes(1), (y, size) -> y.sample(0, size));
        throwsIf(35, NO_ELEMENT, "there is none");
        refused(avoiding(basis(1)), y -> y.sample(0, 1));
        refused(avoiding(basis(12, 21)), y -> y.sample(0, 2));
        refused(avoiding(basis(12, 21)), y -> y.sample(0, 7));
        ordered(35);
        refusedAs(BAD_CLASS, avoiding(basis(1)), y -> y.sample(1, 1));
        refusedAs(BAD_CLASS, classes(1), y -> y.sample(-1, 8));
        refusedAs(BAD_ARGUMENT, avoiding(basis(1)), y -> y.sample(0, 0));
        refusedAs(BAD_ARGUMENT, avoiding(basis(1)), y -> y.sample(0, 8));
        says(36, "`z`: z, 1 to 2147483646");
        x = classes(1).get();
        due(x.seed(2147483646), 1);
        due(x.seed(1), 2147483646);
        due(x.seed(1), 1);
        due(x.sample(0, 1), 1);
        due(x.seed(7), 48271);
        throwsIf(36, BAD_ARGUMENT, "a number is out of range");
        refusedOutside(1, 2147483646, NEW, (y, z) -> y.seed(z));
    }

    private static void shares() {
        says(37, "`size`: the size, 1 to 7");
        AvoidanceLab x = avoiding(basis(), basis(1), basis(12), basis(1234567)).get();
        due(x.share(0, 1), 1f);
        due(x.share(0, 7), 1f);
        due(x.share(1, 1), 0f);
        due(x.share(1, 7), 0f);
        due(x.share(2, 3), 1f / 6f);
        due(x.share(2, 7), 1f / 5040f);
        due(x.share(3, 7), 5039f / 5040f);
        float all = 1;
        for (int size = 1; size <= 7; size++) {
            all *= size;
            due(x.share(0, size), 1f);
            due(x.share(2, size), 1f / all);
        }
        throwsIf(37, BAD_CLASS, "there is no such class");
        refusedWithNoClass((y, number) -> y.share(number, 1));
        throwsIf(37, BAD_ARGUMENT, "a number is out of range");
        refusedOutside(1, 7, classes(1), (y, size) -> y.share(0, size));
        refusedOutside(1, 7, avoiding(basis(1)), (y, size) -> y.share(0, size));
        ordered(37);
        refusedAs(BAD_CLASS, classes(1), y -> y.share(1, 8));
        refusedAs(BAD_CLASS, classes(1), y -> y.share(-1, 0));
    }

    private static void means() {
        says(38, "`size`: the size, 1 to 7");
        AvoidanceLab x = avoiding(basis(), basis(12), basis(21), basis(132)).get();
        due(x.mean(0, 1, 's'), 1.0);
        due(x.mean(0, 7, 'i'), 10.5);
        due(x.mean(0, 7, 'd'), 3.0);
        due(x.mean(1, 7, 'm'), 21.0);
        due(x.mean(2, 7, 'm'), 0.0);
        due(x.mean(3, 3, 'i'), 8.0 / 5.0);
        throwsIf(38, BAD_CLASS, "there is no such class");
        refusedWithNoClass((y, number) -> y.mean(number, 1, 'i'));
        throwsIf(38, BAD_ARGUMENT, "there is no such statistic");
        refusedWithOtherSigns(STATISTICS, classes(1), (y, which) -> y.mean(0, 1, which));
        throwsIf(38, BAD_ARGUMENT, "the size is out of range");
        refusedOutside(1, 7, classes(1), (y, size) -> y.mean(0, size, 'i'));
        throwsIf(38, NO_FRACTION, "there are none");
        refused(avoiding(basis(1)), y -> y.mean(0, 1, 'i'));
        refused(avoiding(basis(1)), y -> y.mean(0, 7, 's'));
        refused(avoiding(basis(12, 21)), y -> y.mean(0, 2, 'f'));
        ordered(38);
        refusedAs(BAD_CLASS, classes(1), y -> y.mean(1, 8, 'i'));
        refusedAs(BAD_CLASS, classes(1), y -> y.mean(1, 1, 'x'));
        refusedAs(BAD_CLASS, avoiding(basis(1)), y -> y.mean(-1, 1, 'i'));
        refusedAs(BAD_ARGUMENT, avoiding(basis(1)), y -> y.mean(0, 8, 'i'));
        refusedAs(BAD_ARGUMENT, avoiding(basis(1)), y -> y.mean(0, 0, 'i'));
        refusedAs(BAD_ARGUMENT, avoiding(basis(1)), y -> y.mean(0, 1, 'x'));
    }

    private static void checksums() {
        says(39, "Returns 7 at first");
        due(new AvoidanceLab().checksum(), 7L);
        says(39, "in the order of classes, behind its patterns");
        due(classes(1).get().checksum(), 7L * 31);
        due(classes(6).get().checksum(), 7L * 31 * 31 * 31 * 31 * 31 * 31);
        due(avoiding(basis(87654321)).get().checksum(), (7L * 31 + 87654321) * 31 + 1);
        due(avoiding(basis(321, 132), basis(), basis(12)).get().checksum(),
                (((((7L * 31 + 132) * 31 + 321) * 31 + 2) * 31 * 31 + 12) * 31) + 1);
        // Six full bases of eight digits go round beyond the longs.
        int[] long12 = {87654321, 87654312, 87654231, 87654213, 87654132, 87654123, 87653421, 87653412, 87653241,
            87653214, 87653142, 87653124};
        java.math.BigInteger sum = java.math.BigInteger.valueOf(7);
        AvoidanceLab x = new AvoidanceLab();
        for (int number = 0; number < 6; number++) {
            x.open();
            for (int index = 11; index >= 0; index--) {
                sum = sum.multiply(java.math.BigInteger.valueOf(31)).add(java.math.BigInteger.valueOf(long12[index]));
                x.avoid(number, long12[index]);
            }
            sum = sum.multiply(java.math.BigInteger.valueOf(31)).add(java.math.BigInteger.valueOf(12));
        }
        due(x.checksum(), sum.longValue());
    }

    private static void truths() {
        says(40, "Checks that each basis is least");
        due(new AvoidanceLab().isTrue(), true);
        due(classes(6).get().isTrue(), true);
        AvoidanceLab x = avoiding(DOZEN, basis(1), basis(12, 21), basis(87654321, 123)).get();
        due(x.isTrue(), true);
        due(x.meet(0, 3), 4);
        due(x.join(2, 3), 5);
        due(x.isTrue(), true);
        says(40, "for each class; that each machine leaves what is in order as it is");
        x.avoid(4, 1);
        due(x.isTrue(), true);
        due(outcome(x, y -> y.open()), BAD_STATE);
        due(x.isTrue(), true);
    }
}
