import java.util.ArrayList;
import java.util.NoSuchElementException;

/**
 * A laboratory of permutations and the patterns that they avoid.
 *
 * The public methods look at their arguments, in the order of the exceptions that the document lists,
 * and leave the work to the classes inside. All rows are made once and used again: a run has one room.
 */
public final class AvoidanceLab {
    private static final int GREATEST_SIZE = 8;
    private static final int GREATEST_LISTED = 7;
    private static final int GREATEST_TOLD_BY_JOIN = 6;
    private static final int GREATEST_SIGNED = 6;
    private static final int GREATEST_RULED = 6;
    private static final int GREATEST_UNIVERSAL = 3;
    private static final int GREATEST_CHECKED = 5;
    private static final int MOST_CLASSES = 6;
    private static final int MOST_PATTERNS = 12;
    private static final int MOST_PASSES = 9;
    private static final int MOST_LINES = 3;
    private static final int MOST_BITS = 255;
    private static final int SEED_FACTOR = 48271;
    private static final int SEED_MODULUS = 2147483647;
    private static final int GREATEST_INT = 2147483647;
    // Far above what any search can need.
    private static final int MOST_STEPS = 1000000;
    private static final int[] FACTORIALS = {1, 1, 2, 6, 24, 120, 720, 5040, 40320};
    private static final char[] MACHINES = {'s', 'p', 'q', 'b'};

    private final ArrayList<Family> families = new ArrayList<Family>();
    private final Matcher matcher = new Matcher();
    private final Basis draft = new Basis();
    private final Machine works = new Machine();
    private final Grid grid = new Grid();
    private final Signs signs = new Signs();
    private final Rule rule = new Rule();
    private final Row row = new Row();
    private final Row second = new Row();
    private final Row result = new Row();
    private int z = 1;

    /** Creates a laboratory without classes. */
    public AvoidanceLab() {
    }

    /** Tells whether digits are a permutation. */
    public boolean isPermutation(int digits) {
        return row.read(digits);
    }

    /** Returns a symmetry. */
    public int symmetry(int permutation, char which) throws IllegalArgumentException {
        readInto(row, permutation);
        if (which == 'r') {
            result.takeReverse(row);
        } else if (which == 'c') {
            result.takeComplement(row);
        } else if (which == 'i') {
            result.takeInverse(row);
        } else {
            throw new IllegalArgumentException("there is no such symmetry");
        }
        return result.digits();
    }

    /** Returns the product of two. */
    public int product(int permutation, int other) throws IllegalArgumentException {
        readInto(row, permutation);
        readInto(second, other);
        if (row.size != second.size) {
            throw new IllegalArgumentException("the sizes are unlike");
        }
        result.takeProduct(row, second);
        return result.digits();
    }

    /** Inflates a place. */
    public int inflate(int permutation, int place, int other) throws IllegalArgumentException {
        readInto(row, permutation);
        readInto(second, other);
        requireBetween(place, 0, row.size - 1);
        requireBetween(row.size + second.size - 1, 1, GREATEST_SIZE);
        result.takeInflation(row, place, second);
        return result.digits();
    }

    /** Returns a statistic. */
    public int statistic(int permutation, char which) throws IllegalArgumentException {
        readInto(row, permutation);
        requireStatistic(which);
        return Statistics.measure(row, which);
    }

    /** Returns how many occurrences a pattern has. */
    public int occurrences(int permutation, int pattern, int bits, int shades) throws IllegalArgumentException {
        readOccurrence(permutation, pattern, bits, shades);
        return matcher.tally(row, second, bits, shades, GREATEST_INT);
    }

    /** Returns an occurrence. */
    public int occurrenceAt(int permutation, int pattern, int bits, int shades, int index)
            throws IllegalArgumentException, NoSuchElementException {
        readOccurrence(permutation, pattern, bits, shades);
        if (index < 0 || matcher.tally(row, second, bits, shades, index) <= index) {
            throw new NoSuchElementException("there is no such occurrence");
        }
        return matcher.lastPlaces();
    }

    /** Adds a class of all permutations. */
    public int open() throws IllegalStateException {
        requireRoom();
        draft.clear();
        return addFamily();
    }

    /** Lets a class avoid a pattern. */
    public int avoid(int number, int pattern)
            throws IndexOutOfBoundsException, IllegalArgumentException, IllegalStateException {
        Family family = familyOf(number);
        readInto(row, pattern);
        draft.copy(family.basis);
        if (draft.take(row)) {
            if (draft.size > MOST_PATTERNS) {
                throw new IllegalStateException("the basis would have too many patterns");
            }
            family.adopt(draft);
        }
        return family.basis.size;
    }

    /** Returns a pattern of a basis, in order. */
    public int basisAt(int number, int index) throws IndexOutOfBoundsException, NoSuchElementException {
        Basis basis = familyOf(number).basis;
        if (index < 0 || index >= basis.size) {
            throw new NoSuchElementException("the basis has no such pattern");
        }
        return basis.pattern(index).digits();
    }

    /** Adds the meet of two classes. */
    public int meet(int number, int other)
            throws IndexOutOfBoundsException, UnsupportedOperationException, IllegalStateException {
        Family family = familyOf(number);
        Family with = familyOf(other);
        draft.copy(family.basis);
        draft.takeAll(with.basis);
        requireFewPatterns();
        requireRoom();
        return addFamily();
    }

    /** Adds the union of two classes, as far as its basis is told by sizes up to 6. */
    public int join(int number, int other)
            throws IndexOutOfBoundsException, UnsupportedOperationException, IllegalStateException {
        Family family = familyOf(number);
        Family with = familyOf(other);
        draft.clear();
        for (int size = 1; size <= GREATEST_TOLD_BY_JOIN && draft.size <= MOST_PATTERNS; size++) {
            draftTheMissing(family, with, size);
        }
        requireFewPatterns();
        requireRoom();
        return addFamily();
    }

    /** Tells whether a permutation is in a class. */
    public boolean isIn(int number, int permutation) throws IndexOutOfBoundsException, IllegalArgumentException {
        Family family = familyOf(number);
        readInto(row, permutation);
        return !family.basis.isMetBy(row);
    }

    /** Returns how many permutations of a size are in a class. */
    public int count(int number, int size) throws IndexOutOfBoundsException, IllegalArgumentException {
        return listedFamily(number, size).howMany(size);
    }

    /** Returns a permutation of a size in a class, in order. */
    public int at(int number, int size, int index)
            throws IndexOutOfBoundsException, IllegalArgumentException, NoSuchElementException {
        Family family = listedFamily(number, size);
        if (index < 0 || index >= family.howMany(size)) {
            throw new NoSuchElementException("there is no such permutation");
        }
        return family.member(size, index);
    }

    /** Tells whether two classes have as many permutations of each size up to one. */
    public boolean areAsMany(int number, int other, int size)
            throws IndexOutOfBoundsException, IllegalArgumentException {
        Family family = familyOf(number);
        Family with = familyOf(other);
        requireBetween(size, 1, GREATEST_LISTED);
        family.list(size);
        with.list(size);
        for (int each = 1; each <= size; each++) {
            if (family.howMany(each) != with.howMany(each)) {
                return false;
            }
        }
        return true;
    }

    /** Returns how many permutations of a size in a class have two statistics. */
    public int joint(int number, int size, char which, int value, char other, int otherValue)
            throws IndexOutOfBoundsException, IllegalArgumentException {
        Family family = listedFamily(number, size);
        requireStatistic(which);
        requireStatistic(other);
        int many = family.howMany(size);
        int having = 0;
        for (int index = 0; index < many; index++) {
            row.read(family.member(size, index));
            if (Statistics.measure(row, which) == value && Statistics.measure(row, other) == otherValue) {
                having++;
            }
        }
        return having;
    }

    /** Returns what comes of a pass. */
    public int pass(int permutation, char machine) throws IllegalArgumentException {
        readInto(row, permutation);
        requireMachine(machine);
        works.run(row, result, machine);
        return result.digits();
    }

    /** Returns by how many passes a permutation comes to be in order. */
    public int passes(int permutation, char machine) throws IllegalArgumentException {
        readInto(row, permutation);
        requireMachine(machine);
        return works.runsNeeded(row, machine);
    }

    /** Returns how many permutations of a size come to be in order by so many passes at most. */
    public int sorted(int size, char machine, int passes) throws IllegalArgumentException {
        requireBetween(size, 1, GREATEST_LISTED);
        requireMachine(machine);
        requireBetween(passes, 0, MOST_PASSES);
        return works.howManySorted(size, machine, passes);
    }

    /** Returns the label of a permutation. */
    public int label(int number, int permutation)
            throws IndexOutOfBoundsException, IllegalArgumentException, UnsupportedOperationException {
        return parentsFamily(number, permutation).howManyChildren(row);
    }

    /** Returns a child of a permutation, in order. */
    public int child(int number, int permutation, int index) throws IndexOutOfBoundsException,
            IllegalArgumentException, UnsupportedOperationException, NoSuchElementException {
        Family family = parentsFamily(number, permutation);
        int ahead = 0;
        // The farther behind the greatest number stands, the less is the child.
        for (int place = row.size; place >= 0; place--) {
            if (family.bears(row, place, result)) {
                if (ahead == index) {
                    return result.digits();
                }
                ahead++;
            }
        }
        throw new NoSuchElementException("there is no such child");
    }

    /** Tells whether a class has a rule up to a size. */
    public boolean hasRule(int number, int size) throws IndexOutOfBoundsException, IllegalArgumentException {
        Family family = familyOf(number);
        requireBetween(size, 2, GREATEST_RULED);
        family.list(size - 1);
        rule.forget();
        for (int each = 1; each < size; each++) {
            int many = family.howMany(each);
            for (int index = 0; index < many; index++) {
                row.read(family.member(each, index));
                if (!rule.isKept(family, row, result)) {
                    return false;
                }
            }
        }
        return true;
    }

    /** Returns how a number is put into slots. */
    public int slotted(int permutation, int number) throws IllegalArgumentException {
        readInto(row, permutation);
        requireBetween(number, 1, row.size);
        return Encodings.slotCode(row, number);
    }

    /** Returns how many slots there are at most while a permutation is built. */
    public int slots(int permutation) throws IllegalArgumentException {
        readInto(row, permutation);
        return Encodings.mostSlots(row);
    }

    /** Returns how many intervals a permutation has. */
    public int intervals(int permutation) throws IllegalArgumentException {
        readInto(row, permutation);
        return Encodings.howManyIntervals(row);
    }

    /** Returns how many simple permutations of a size are in a class. */
    public int simple(int number, int size) throws IndexOutOfBoundsException, IllegalArgumentException {
        Family family = listedFamily(number, size);
        int many = family.howMany(size);
        int simpleOnes = 0;
        for (int index = 0; index < many; index++) {
            row.read(family.member(size, index));
            if (Encodings.howManyIntervals(row) == 0) {
                simpleOnes++;
            }
        }
        return simpleOnes;
    }

    /** Returns how many griddings a permutation has. */
    public int griddings(int permutation, int columns, int rows, int cells) throws IllegalArgumentException {
        readInto(row, permutation);
        requireBetween(columns, 1, MOST_LINES);
        requireBetween(rows, 1, MOST_LINES);
        if (!grid.read(columns, rows, cells)) {
            throw new IllegalArgumentException("the cells are not told rightly");
        }
        return grid.howManyGriddings(row);
    }

    /** Returns the sign of two permutations. */
    public int signOf(int permutation, int other) throws IllegalArgumentException, UnsupportedOperationException {
        readInto(row, permutation);
        readInto(second, other);
        requireBetween(second.size, 1, GREATEST_SIGNED);
        if (!matcher.contains(second, row)) {
            throw new UnsupportedOperationException("the one is not contained in the other one");
        }
        signs.weigh(row, second);
        return signs.ofGreatest();
    }

    /** Returns the packing of a pattern. */
    public int packing(int pattern, int size) throws IllegalArgumentException {
        readInto(second, pattern);
        requireBetween(size, 1, GREATEST_LISTED);
        int most = 0;
        row.begin(size);
        for (int index = 0; index < FACTORIALS[size]; index++) {
            most = Math.max(most, matcher.tally(row, second, 0, 0, GREATEST_INT));
            row.advance();
        }
        return most;
    }

    /** Returns the upper number of the growth of a class. */
    public int growthOver(int number, int size)
            throws IndexOutOfBoundsException, IllegalArgumentException, ArithmeticException {
        Family family = grownFamily(number, size);
        return inLowestTerms(family.howMany(size), family.howMany(size - 1));
    }

    /** Returns the lower number of the growth of a class. */
    public int growthUnder(int number, int size)
            throws IndexOutOfBoundsException, IllegalArgumentException, ArithmeticException {
        Family family = grownFamily(number, size);
        return inLowestTerms(family.howMany(size - 1), family.howMany(size));
    }

    /** Returns the size of the least permutations that contain all of a size. */
    public int universal(int size) throws IllegalArgumentException {
        requireBetween(size, 1, GREATEST_UNIVERSAL);
        for (int whole = size; whole < GREATEST_SIZE; whole++) {
            row.begin(whole);
            for (int index = 0; index < FACTORIALS[whole]; index++) {
                if (containsAll(row, size)) {
                    return whole;
                }
                row.advance();
            }
        }
        return GREATEST_SIZE;
    }

    /** Draws a sample. */
    public int sample(int number, int size)
            throws IndexOutOfBoundsException, IllegalArgumentException, NoSuchElementException {
        Family family = listedFamily(number, size);
        int many = family.howMany(size);
        if (many < 1) {
            throw new NoSuchElementException("the class has none of the size");
        }
        z = (int) ((long) z * SEED_FACTOR % SEED_MODULUS);
        return family.member(size, z % many);
    }

    /** Sets z. */
    public int seed(int z) throws IllegalArgumentException {
        requireBetween(z, 1, SEED_MODULUS - 1);
        int before = this.z;
        this.z = z;
        return before;
    }

    /** Returns the share of permutations of a size that are in a class. */
    public float share(int number, int size) throws IndexOutOfBoundsException, IllegalArgumentException {
        Family family = listedFamily(number, size);
        return (float) family.howMany(size) / (float) FACTORIALS[size];
    }

    /** Returns the mean of a statistic of permutations of a size in a class. */
    public double mean(int number, int size, char which)
            throws IndexOutOfBoundsException, IllegalArgumentException, ArithmeticException {
        Family family = listedFamily(number, size);
        requireStatistic(which);
        int many = family.howMany(size);
        if (many < 1) {
            throw new ArithmeticException("the class has none of the size");
        }
        int sum = 0;
        for (int index = 0; index < many; index++) {
            row.read(family.member(size, index));
            sum += Statistics.measure(row, which);
        }
        return (double) sum / (double) many;
    }

    /** Returns a sum over all bases. */
    public long checksum() {
        long sum = 7;
        for (int number = 0; number < families.size(); number++) {
            Basis basis = families.get(number).basis;
            for (int index = 0; index < basis.size; index++) {
                sum = 31 * sum + basis.pattern(index).digits();
            }
            sum = 31 * sum + basis.size;
        }
        return sum;
    }

    /** Checks what holds of every laboratory. */
    public boolean isTrue() {
        for (int number = 0; number < families.size(); number++) {
            Family family = families.get(number);
            if (!family.basis.isLeast() || !isGeneratedAsListed(family)) {
                return false;
            }
        }
        return machinesLeaveOrder() && signsSumToNought();
    }

    private void readInto(Row into, int digits) {
        if (!into.read(digits)) {
            throw new IllegalArgumentException("it is no permutation");
        }
    }

    private void readOccurrence(int permutation, int pattern, int bits, int shades) {
        readInto(row, permutation);
        readInto(second, pattern);
        requireBetween(bits, 0, MOST_BITS);
        requireBetween(shades, 0, GREATEST_INT);
    }

    private static void requireBetween(int number, int least, int greatest) {
        if (number < least || number > greatest) {
            throw new IllegalArgumentException("a number is out of range");
        }
    }

    private static void requireStatistic(char which) {
        if (!Statistics.isOne(which)) {
            throw new IllegalArgumentException("there is no such statistic");
        }
    }

    private static void requireMachine(char machine) {
        if (Machine.kindOf(machine) < 0) {
            throw new IllegalArgumentException("there is no such machine");
        }
    }

    private void requireRoom() {
        if (families.size() >= MOST_CLASSES) {
            throw new IllegalStateException("there are classes enough");
        }
    }

    private void requireFewPatterns() {
        if (draft.size > MOST_PATTERNS) {
            throw new UnsupportedOperationException("the basis would have too many patterns");
        }
    }

    private int addFamily() {
        Family family = new Family();
        family.adopt(draft);
        families.add(family);
        return families.size() - 1;
    }

    private Family familyOf(int number) {
        if (number < 0 || number >= families.size()) {
            throw new IndexOutOfBoundsException("there is no such class");
        }
        return families.get(number);
    }

    private Family listedFamily(int number, int size) {
        Family family = familyOf(number);
        requireBetween(size, 1, GREATEST_LISTED);
        family.list(size);
        return family;
    }

    /** The permutation stands in the row then. */
    private Family parentsFamily(int number, int permutation) {
        Family family = familyOf(number);
        readInto(row, permutation);
        requireBetween(row.size, 1, GREATEST_SIZE - 1);
        if (family.basis.isMetBy(row)) {
            throw new UnsupportedOperationException("the permutation is not in the class");
        }
        return family;
    }

    private Family grownFamily(int number, int size) {
        Family family = familyOf(number);
        requireBetween(size, 2, GREATEST_LISTED);
        family.list(size);
        if (family.howMany(size - 1) < 1) {
            throw new ArithmeticException("the class has none of the size 1 less");
        }
        return family;
    }

    private static int inLowestTerms(int number, int by) {
        int divisor = number;
        int rest = by;
        for (int step = 0; step < 64 && rest != 0; step++) {
            int next = divisor % rest;
            divisor = rest;
            rest = next;
        }
        return divisor == 0 ? number : number / divisor;
    }

    private void draftTheMissing(Family family, Family with, int size) {
        row.begin(size);
        for (int index = 0; index < FACTORIALS[size] && draft.size <= MOST_PATTERNS; index++) {
            if (family.basis.isMetBy(row) && with.basis.isMetBy(row)) {
                draft.take(row);
            }
            row.advance();
        }
    }

    private boolean containsAll(Row whole, int size) {
        second.begin(size);
        for (int index = 0; index < FACTORIALS[size]; index++) {
            if (!matcher.contains(whole, second)) {
                return false;
            }
            second.advance();
        }
        return true;
    }

    private boolean isGeneratedAsListed(Family family) {
        family.list(GREATEST_CHECKED);
        row.begin(1);
        int generated = family.basis.isMetBy(row) ? 0 : 1;
        for (int size = 1; size <= GREATEST_CHECKED; size++) {
            int many = family.howMany(size);
            if (generated != many) {
                return false;
            }
            generated = 0;
            for (int index = 0; index < many; index++) {
                row.read(family.member(size, index));
                generated += family.howManyChildren(row);
            }
        }
        return true;
    }

    private boolean machinesLeaveOrder() {
        for (int size = 1; size <= GREATEST_SIZE; size++) {
            row.begin(size);
            for (int kind = 0; kind < MACHINES.length; kind++) {
                works.run(row, result, MACHINES[kind]);
                if (result.digits() != row.digits()) {
                    return false;
                }
            }
        }
        return true;
    }

    private boolean signsSumToNought() {
        row.read(1);
        second.read(2413);
        signs.weigh(row, second);
        return signs.total() == 0;
    }

    /** A permutation, spread out; the size 0 tells that there is none. */
    private static final class Row {
        int size = 0;
        final int[] numbers = new int[GREATEST_SIZE];

        /** Takes the digits; answers false, and is empty, if they are no permutation. */
        boolean read(int digits) {
            size = 0;
            int length = lengthOf(digits);
            if (length < 1 || length > GREATEST_SIZE) {
                return false;
            }
            int rest = digits;
            int seen = 0;
            for (int place = length - 1; place >= 0; place--) {
                int number = rest % 10;
                if (number < 1 || number > length || (seen >> number & 1) == 1) {
                    return false;
                }
                seen |= 1 << number;
                numbers[place] = number;
                rest /= 10;
            }
            size = length;
            return true;
        }

        private static int lengthOf(int digits) {
            int length = 0;
            for (int rest = digits; rest > 0; rest /= 10) {
                length++;
            }
            return length;
        }

        int digits() {
            int digits = 0;
            for (int place = 0; place < size; place++) {
                digits = 10 * digits + numbers[place];
            }
            return digits;
        }

        void clear() {
            size = 0;
        }

        void append(int number) {
            if (size < GREATEST_SIZE) {
                numbers[size] = number;
                size++;
            }
        }

        int numberAt(int place) {
            return place >= 0 && place < size ? numbers[place] : 0;
        }

        int last() {
            return size > 0 ? numbers[size - 1] : 0;
        }

        /** The place of a number, or -1. */
        int placeOf(int number) {
            for (int place = 0; place < size; place++) {
                if (numbers[place] == number) {
                    return place;
                }
            }
            return -1;
        }

        void copy(Row from) {
            size = from.size;
            for (int place = 0; place < size; place++) {
                numbers[place] = from.numbers[place];
            }
        }

        boolean isInOrder() {
            for (int place = 0; place < size; place++) {
                if (numbers[place] != place + 1) {
                    return false;
                }
            }
            return true;
        }

        /** Becomes the first permutation of a size. */
        void begin(int length) {
            size = 0;
            for (int number = 1; number <= length; number++) {
                append(number);
            }
        }

        /** Becomes the next permutation of its size, in order; the last one becomes the first one. */
        void advance() {
            int place = size - 2;
            while (place >= 0 && numbers[place] > numbers[place + 1]) {
                place--;
            }
            turnEnd(place + 1);
            if (place >= 0) {
                int next = place + 1;
                while (next < size - 1 && numbers[next] < numbers[place]) {
                    next++;
                }
                swap(place, next);
            }
        }

        private void turnEnd(int from) {
            int ahead = from;
            for (int behind = size - 1; ahead < behind; behind--) {
                swap(ahead, behind);
                ahead++;
            }
        }

        void swap(int place, int other) {
            if (place >= 0 && place < size && other >= 0 && other < size) {
                int number = numbers[place];
                numbers[place] = numbers[other];
                numbers[other] = number;
            }
        }

        void takeReverse(Row from) {
            size = 0;
            for (int place = from.size - 1; place >= 0; place--) {
                append(from.numbers[place]);
            }
        }

        void takeComplement(Row from) {
            size = 0;
            for (int place = 0; place < from.size; place++) {
                append(from.size + 1 - from.numbers[place]);
            }
        }

        void takeInverse(Row from) {
            size = 0;
            for (int number = 1; number <= from.size; number++) {
                append(from.placeOf(number) + 1);
            }
        }

        void takeProduct(Row first, Row places) {
            size = 0;
            for (int place = 0; place < places.size; place++) {
                append(first.numberAt(places.numbers[place] - 1));
            }
        }

        void takeInflation(Row from, int at, Row room) {
            int base = from.numberAt(at) - 1;
            size = 0;
            for (int place = 0; place < from.size; place++) {
                if (place == at) {
                    for (int inner = 0; inner < room.size; inner++) {
                        append(base + room.numbers[inner]);
                    }
                } else {
                    int number = from.numbers[place];
                    append(number > base ? number + room.size - 1 : number);
                }
            }
        }

        /** Becomes a row with a number put ahead of a place; those that are not less than it make room. */
        void takeWith(Row from, int at, int number) {
            size = 0;
            for (int place = 0; place <= from.size; place++) {
                if (place == at) {
                    append(number);
                }
                if (place < from.size) {
                    int old = from.numbers[place];
                    append(old >= number ? old + 1 : old);
                }
            }
        }

        /** Becomes the pattern of the places that are told as bits. */
        void takePart(Row from, int places) {
            size = 0;
            for (int place = 0; place < from.size; place++) {
                if ((places >> place & 1) == 1) {
                    append(1 + howManyLess(from, places, from.numbers[place]));
                }
            }
        }

        private static int howManyLess(Row from, int places, int number) {
            int less = 0;
            for (int place = 0; place < from.size; place++) {
                if ((places >> place & 1) == 1 && from.numbers[place] < number) {
                    less++;
                }
            }
            return less;
        }
    }

    /** The numbers that are told of a permutation. */
    private static final class Statistics {
        static boolean isOne(char which) {
            return which == 'i' || which == 'd' || which == 'm' || which == 'p' || which == 'l' || which == 'f'
                    || which == 's';
        }

        /** 0 if there is no such statistic. */
        static int measure(Row row, char which) {
            if (which == 'i') {
                return inversions(row);
            }
            if (which == 'd') {
                return descents(row);
            }
            if (which == 'm') {
                return majorIndex(row);
            }
            if (which == 'p') {
                return peaks(row);
            }
            if (which == 'l') {
                return records(row);
            }
            if (which == 'f') {
                return fixedPlaces(row);
            }
            return which == 's' ? cycles(row) : 0;
        }

        private static int inversions(Row row) {
            int pairs = 0;
            for (int place = 0; place < row.size; place++) {
                for (int ahead = 0; ahead < place; ahead++) {
                    if (row.numbers[ahead] > row.numbers[place]) {
                        pairs++;
                    }
                }
            }
            return pairs;
        }

        private static int descents(Row row) {
            int places = 0;
            for (int place = 0; place < row.size - 1; place++) {
                if (row.numbers[place] > row.numbers[place + 1]) {
                    places++;
                }
            }
            return places;
        }

        private static int majorIndex(Row row) {
            int sum = 0;
            for (int place = 0; place < row.size - 1; place++) {
                if (row.numbers[place] > row.numbers[place + 1]) {
                    sum += place + 1;
                }
            }
            return sum;
        }

        private static int peaks(Row row) {
            int places = 0;
            for (int place = 1; place < row.size - 1; place++) {
                int number = row.numbers[place];
                if (row.numbers[place - 1] < number && row.numbers[place + 1] < number) {
                    places++;
                }
            }
            return places;
        }

        private static int records(Row row) {
            int greatest = 0;
            int many = 0;
            for (int place = 0; place < row.size; place++) {
                if (row.numbers[place] > greatest) {
                    greatest = row.numbers[place];
                    many++;
                }
            }
            return many;
        }

        private static int fixedPlaces(Row row) {
            int places = 0;
            for (int place = 0; place < row.size; place++) {
                if (row.numbers[place] == place + 1) {
                    places++;
                }
            }
            return places;
        }

        private static int cycles(Row row) {
            int seen = 0;
            int many = 0;
            for (int start = 0; start < row.size; start++) {
                if ((seen >> start & 1) == 0) {
                    many++;
                    int place = start;
                    for (int step = 0; step < row.size; step++) {
                        seen |= 1 << place;
                        place = row.numberAt(place) - 1;
                    }
                }
            }
            return many;
        }
    }

    /** Slots and intervals. */
    private static final class Encodings {
        static int slotCode(Row row, int number) {
            int place = row.placeOf(number);
            int slot = 0;
            // The slots are the runs of those that are not less: a run begins behind a lesser one.
            for (int each = 0; each <= place; each++) {
                if (row.numbers[each] >= number && row.numberAt(each - 1) < number) {
                    slot++;
                }
            }
            boolean left = row.numberAt(place - 1) > number;
            boolean right = row.numberAt(place + 1) > number;
            if (left) {
                return 10 * slot + (right ? 0 : 2);
            }
            return 10 * slot + (right ? 1 : 3);
        }

        static int mostSlots(Row row) {
            int most = 1;
            for (int number = 1; number <= row.size; number++) {
                most = Math.max(most, slotsBehind(row, number));
            }
            return most;
        }

        /** How many slots there are once a number is put in. */
        private static int slotsBehind(Row row, int number) {
            int many = 0;
            for (int place = 0; place < row.size; place++) {
                if (row.numbers[place] > number && row.numberAt(place - 1) <= number) {
                    many++;
                }
            }
            return many;
        }

        static int howManyIntervals(Row row) {
            int many = 0;
            for (int from = 0; from < row.size; from++) {
                int least = row.numbers[from];
                int greatest = least;
                for (int to = from + 1; to < row.size; to++) {
                    least = Math.min(least, row.numbers[to]);
                    greatest = Math.max(greatest, row.numbers[to]);
                    if (greatest - least == to - from && to - from + 1 < row.size) {
                        many++;
                    }
                }
            }
            return many;
        }
    }

    /** Looks for occurrences, in order, until the wanted one is met. */
    private static final class Matcher {
        private final int[] places = new int[GREATEST_SIZE];
        private final int[] chosen = new int[GREATEST_SIZE];
        private int bits = 0;
        private int shades = 0;
        private int wanted = 0;
        private int found = 0;
        private int met = 0;

        boolean contains(Row whole, Row pattern) {
            prepare(0, 0, 0);
            search(whole, pattern, 0);
            return found > 0;
        }

        /** Whether there is an occurrence whose first place is the first one. */
        boolean beginsWith(Row whole, Row pattern) {
            if (whole.size < pattern.size) {
                return false;
            }
            if (pattern.size < 2) {
                return true;
            }
            prepare(0, 0, 0);
            places[0] = 0;
            chosen[0] = whole.numberAt(0);
            search(whole, pattern, 1);
            return found > 0;
        }

        /** How many occurrences there are up to the one of the wanted index. */
        int tally(Row whole, Row pattern, int adjacent, int shaded, int index) {
            prepare(adjacent, shaded, index);
            search(whole, pattern, 0);
            return found;
        }

        /** The places, as bits, of the occurrence that was met last. */
        int lastPlaces() {
            return met;
        }

        private void prepare(int adjacent, int shaded, int index) {
            bits = adjacent;
            shades = shaded;
            wanted = index;
            found = 0;
            met = 0;
        }

        /**
         * Chooses places from one depth on, those before being chosen already. Where a depth has no more places,
         * the one before goes on; so the occurrences come in order.
         */
        private void search(Row whole, Row pattern, int start) {
            int depth = start;
            int place = start;
            for (int step = 0; step < MOST_STEPS && depth >= start && found <= wanted; step++) {
                if (place > lastPlace(whole, pattern, depth)) {
                    depth--;
                    place = depth >= start ? places[depth] + 1 : 0;
                } else {
                    if (fits(pattern, depth, whole.numbers[place])) {
                        places[depth] = place;
                        chosen[depth] = whole.numbers[place];
                        if (depth < pattern.size - 1) {
                            depth++;
                        } else if (shades == 0 || !isShaded(whole, pattern.size)) {
                            note(pattern.size);
                        }
                    }
                    place++;
                }
            }
        }

        /** The last place that leaves room for the rest of the pattern, or the next one if it must be that. */
        private int lastPlace(Row whole, Row pattern, int depth) {
            int last = whole.size - pattern.size + depth;
            boolean isBound = depth > 0 && (bits >> (depth - 1) & 1) == 1;
            return isBound && places[depth - 1] < last ? places[depth - 1] + 1 : last;
        }

        private boolean fits(Row pattern, int depth, int number) {
            for (int each = 0; each < depth; each++) {
                if ((chosen[each] < number) != (pattern.numbers[each] < pattern.numbers[depth])) {
                    return false;
                }
            }
            return true;
        }

        private void note(int length) {
            found++;
            met = 0;
            for (int each = 0; each < length; each++) {
                met |= 1 << places[each];
            }
        }

        private boolean isShaded(Row whole, int length) {
            for (int place = 0; place < whole.size; place++) {
                boolean isChosen = false;
                int behind = 0;
                int above = 0;
                for (int each = 0; each < length; each++) {
                    isChosen = isChosen || places[each] == place;
                    behind += places[each] < place ? 1 : 0;
                    above += chosen[each] < whole.numbers[place] ? 1 : 0;
                }
                int box = behind * (length + 1) + above;
                // A shift by 32 would begin anew: boxes beyond the bit 30 cannot be told.
                if (!isChosen && box <= 30 && (shades >> box & 1) == 1) {
                    return true;
                }
            }
            return false;
        }
    }

    /** Patterns in order of which none contains another one; two full ones fit in. */
    private static final class Basis {
        int size = 0;
        private final Row[] patterns = new Row[2 * MOST_PATTERNS];
        private final Matcher matcher = new Matcher();

        Basis() {
            for (int index = 0; index < patterns.length; index++) {
                patterns[index] = new Row();
            }
        }

        Row pattern(int index) {
            return patterns[index < 0 || index >= patterns.length ? 0 : index];
        }

        void clear() {
            size = 0;
        }

        void copy(Basis from) {
            size = from.size;
            for (int index = 0; index < size; index++) {
                patterns[index].copy(from.patterns[index]);
            }
        }

        boolean isMetBy(Row row) {
            for (int index = 0; index < size; index++) {
                if (matcher.contains(row, patterns[index])) {
                    return true;
                }
            }
            return false;
        }

        /** Whether an occurrence of one of them begins at the first place. */
        boolean isMetAtFront(Row row) {
            for (int index = 0; index < size; index++) {
                if (matcher.beginsWith(row, patterns[index])) {
                    return true;
                }
            }
            return false;
        }

        /** Answers whether the pattern is taken: it is not if it contains one that is here. */
        boolean take(Row pattern) {
            if (isMetBy(pattern)) {
                return false;
            }
            dropThoseWith(pattern);
            if (size >= patterns.length) {
                return false;
            }
            patterns[size].copy(pattern);
            size++;
            int digits = pattern.digits();
            for (int index = size - 1; index > 0 && patterns[index - 1].digits() > digits; index--) {
                swap(index - 1, index);
            }
            return true;
        }

        void takeAll(Basis from) {
            for (int index = 0; index < from.size; index++) {
                take(from.patterns[index]);
            }
        }

        private void dropThoseWith(Row pattern) {
            int kept = 0;
            for (int index = 0; index < size; index++) {
                if (!matcher.contains(patterns[index], pattern)) {
                    swap(kept, index);
                    kept++;
                }
            }
            size = kept;
        }

        private void swap(int index, int other) {
            Row pattern = patterns[index];
            patterns[index] = patterns[other];
            patterns[other] = pattern;
        }

        boolean isLeast() {
            for (int index = 0; index < size; index++) {
                for (int other = 0; other < size; other++) {
                    if (index != other && matcher.contains(patterns[index], patterns[other])) {
                        return false;
                    }
                }
            }
            return true;
        }
    }

    /** A class: its basis, and its permutations up to the size that was asked for. */
    private static final class Family {
        // Where those of a size begin in the list; 0 stands for the one of no numbers, from which all grow.
        private static final int[] STARTS = {0, 1, 2, 4, 10, 34, 154, 874};
        private static final int MOST_MEMBERS = 5914;

        final Basis basis = new Basis();
        private final int[] members = new int[MOST_MEMBERS];
        private final int[] counts = new int[GREATEST_LISTED + 1];
        private int listed = 0;
        private final Row shorter = new Row();
        private final Row longer = new Row();

        Family() {
            counts[0] = 1;
        }

        void adopt(Basis from) {
            basis.copy(from);
            listed = 0;
        }

        /**
         * Lists the permutations up to a size; what is listed already stays. Without its first number a permutation
         * of the class is one of the class too. So those of a size come, in order, of a first number and of those of
         * the size 1 less.
         */
        void list(int most) {
            for (int size = listed + 1; size <= most && size <= GREATEST_LISTED; size++) {
                int found = 0;
                for (int number = 1; number <= size; number++) {
                    for (int index = 0; index < counts[size - 1]; index++) {
                        shorter.read(members[STARTS[size - 1] + index]);
                        longer.takeWith(shorter, 0, number);
                        if (!basis.isMetAtFront(longer)) {
                            members[STARTS[size] + found] = longer.digits();
                            found++;
                        }
                    }
                }
                counts[size] = found;
                listed = size;
            }
        }

        /** How many there are of a size that is listed. */
        int howMany(int size) {
            return size < 1 || size > listed ? 0 : counts[size];
        }

        /** The one of an index, of a size that is listed; 0 if there is none. */
        int member(int size, int index) {
            return index < 0 || index >= howMany(size) ? 0 : members[STARTS[size] + index];
        }

        int howManyChildren(Row row) {
            int many = 0;
            for (int place = 0; place <= row.size; place++) {
                longer.takeWith(row, place, row.size + 1);
                if (!basis.isMetBy(longer)) {
                    many++;
                }
            }
            return many;
        }

        /** Puts the greatest number ahead of a place; answers whether a child comes of it. */
        boolean bears(Row row, int place, Row child) {
            child.takeWith(row, place, row.size + 1);
            return !basis.isMetBy(child);
        }
    }

    /** What labels the children of a label have, as far as it is known. */
    private static final class Rule {
        private final long[] children = new long[GREATEST_SIZE + 1];
        private final boolean[] known = new boolean[GREATEST_SIZE + 1];

        void forget() {
            for (int label = 0; label < known.length; label++) {
                known[label] = false;
            }
        }

        /** Whether a permutation has such children as those of its label before it, if there are any. */
        boolean isKept(Family family, Row row, Row child) {
            int label = 0;
            long often = 0;
            for (int place = 0; place <= row.size; place++) {
                if (family.bears(row, place, child)) {
                    label++;
                    // Four bits count each label: there are no more than 9 children, and no label is above 9.
                    often += 1L << 4 * family.howManyChildren(child);
                }
            }
            if (label >= known.length) {
                return false;
            }
            if (known[label]) {
                return children[label] == often;
            }
            known[label] = true;
            children[label] = often;
            return true;
        }
    }

    /** The machines, and how many permutations they sort, counted once for each size. */
    private static final class Machine {
        private static final int TALLIES = MOST_PASSES + 1;

        private final Row held = new Row();
        private final Row before = new Row();
        private final Row after = new Row();
        private final Row walking = new Row();
        private final int[] tallies = new int[MACHINES.length * (GREATEST_LISTED + 1) * TALLIES];
        private final boolean[] tallied = new boolean[MACHINES.length * (GREATEST_LISTED + 1)];

        /** The index of a machine, or -1. */
        static int kindOf(char machine) {
            for (int kind = 0; kind < MACHINES.length; kind++) {
                if (MACHINES[kind] == machine) {
                    return kind;
                }
            }
            return -1;
        }

        void run(Row from, Row to, char machine) {
            to.clear();
            if (machine == 's') {
                runStack(from, to, false);
            } else if (machine == 'p') {
                runStack(from, to, true);
            } else if (machine == 'q') {
                runLine(from, to);
            } else {
                runNeighbours(from, to);
            }
        }

        private void runStack(Row from, Row to, boolean emptiesWhole) {
            held.clear();
            for (int place = 0; place < from.size; place++) {
                int number = from.numbers[place];
                boolean empties = emptiesWhole && held.size > 0 && held.last() < number;
                while (held.size > 0 && (empties || held.last() < number)) {
                    to.append(held.last());
                    held.size--;
                }
                held.append(number);
            }
            for (; held.size > 0; held.size--) {
                to.append(held.last());
            }
        }

        /** The line rises, so those of it that are less than a number are its front. */
        private void runLine(Row from, Row to) {
            held.clear();
            int front = 0;
            for (int place = 0; place < from.size; place++) {
                int number = from.numbers[place];
                if (front == held.size || held.last() < number) {
                    held.append(number);
                } else {
                    for (; front < held.size && held.numbers[front] < number; front++) {
                        to.append(held.numbers[front]);
                    }
                    to.append(number);
                }
            }
            for (; front < held.size; front++) {
                to.append(held.numbers[front]);
            }
        }

        private void runNeighbours(Row from, Row to) {
            to.copy(from);
            for (int place = 0; place < to.size - 1; place++) {
                if (to.numbers[place] > to.numbers[place + 1]) {
                    to.swap(place, place + 1);
                }
            }
        }

        /** No machine needs as many passes as there are numbers. */
        int runsNeeded(Row row, char machine) {
            before.copy(row);
            for (int runs = 0; runs < GREATEST_SIZE; runs++) {
                if (before.isInOrder()) {
                    return runs;
                }
                run(before, after, machine);
                before.copy(after);
            }
            return GREATEST_SIZE;
        }

        int howManySorted(int size, char machine, int most) {
            int kind = kindOf(machine);
            if (kind < 0 || size < 1 || size > GREATEST_LISTED) {
                return 0;
            }
            int cell = kind * (GREATEST_LISTED + 1) + size;
            if (!tallied[cell]) {
                tallySize(size, machine, cell * TALLIES);
                tallied[cell] = true;
            }
            int many = 0;
            for (int runs = 0; runs < TALLIES && runs <= most; runs++) {
                many += tallies[cell * TALLIES + runs];
            }
            return many;
        }

        private void tallySize(int size, char machine, int start) {
            walking.begin(size);
            for (int index = 0; index < FACTORIALS[size]; index++) {
                int runs = runsNeeded(walking, machine);
                if (runs < TALLIES) {
                    tallies[start + runs]++;
                }
                walking.advance();
            }
        }
    }

    /** Cells in columns and rows, always told as three by three: those that there are not stay empty. */
    private static final class Grid {
        private final int[] kinds = new int[MOST_LINES * MOST_LINES];
        private final int[] lasts = new int[MOST_LINES * MOST_LINES];
        private int columns = 1;
        private int rows = 1;

        /** Takes the cells; answers false if they are not told rightly. */
        boolean read(int howManyColumns, int howManyRows, int cells) {
            columns = howManyColumns;
            rows = howManyRows;
            int rest = cells;
            for (int up = rows - 1; up >= 0; up--) {
                for (int column = columns - 1; column >= 0; column--) {
                    int kind = rest % 10;
                    if (kind < 0 || kind > 2) {
                        return false;
                    }
                    kinds[up * MOST_LINES + column] = kind;
                    rest /= 10;
                }
            }
            return rest == 0;
        }

        int howManyGriddings(Row row) {
            int many = 0;
            int end = row.size;
            // A line that there is not stands behind all.
            for (int first = columns > 1 ? 0 : end; first <= end; first++) {
                for (int second = columns > 2 ? first : end; second <= end; second++) {
                    many += howManyWithColumns(row, first, second);
                }
            }
            return many;
        }

        private int howManyWithColumns(Row row, int first, int second) {
            int many = 0;
            int end = row.size;
            for (int low = rows > 1 ? 0 : end; low <= end; low++) {
                for (int high = rows > 2 ? low : end; high <= end; high++) {
                    if (isGridding(row, first, second, low, high)) {
                        many++;
                    }
                }
            }
            return many;
        }

        private boolean isGridding(Row row, int first, int second, int low, int high) {
            for (int cell = 0; cell < lasts.length; cell++) {
                lasts[cell] = 0;
            }
            for (int place = 0; place < row.size; place++) {
                int number = row.numbers[place];
                int column = place < first ? 0 : (place < second ? 1 : 2);
                int up = number <= low ? 0 : (number <= high ? 1 : 2);
                int cell = up * MOST_LINES + column;
                if (!goesInto(cell, number)) {
                    return false;
                }
                lasts[cell] = number;
            }
            return true;
        }

        private boolean goesInto(int cell, int number) {
            int last = lasts[cell];
            if (kinds[cell] == 1) {
                return last == 0 || last < number;
            }
            return kinds[cell] == 2 && (last == 0 || last > number);
        }
    }

    /** All permutations from one up to another one, in order, with their signs. */
    private static final class Signs {
        private final Row[] between = new Row[1 << GREATEST_SIGNED];
        private final int[] weights = new int[1 << GREATEST_SIGNED];
        private final Row part = new Row();
        private final Matcher matcher = new Matcher();
        private int many = 0;

        Signs() {
            for (int index = 0; index < between.length; index++) {
                between[index] = new Row();
            }
        }

        /** The greatest one has a size up to 6, and contains the least one. */
        void weigh(Row least, Row greatest) {
            many = 0;
            int ends = 1 << Math.min(greatest.size, GREATEST_SIGNED);
            for (int places = 1; places < ends; places++) {
                part.takePart(greatest, places);
                if (matcher.contains(part, least)) {
                    putInOrder();
                }
            }
            for (int index = 0; index < many; index++) {
                weights[index] = index == 0 ? 1 : -sumBelow(index);
            }
        }

        private void putInOrder() {
            int digits = part.digits();
            int index = many;
            while (index > 0 && between[index - 1].digits() > digits) {
                index--;
            }
            boolean isNew = index == 0 || between[index - 1].digits() != digits;
            if (isNew && many < between.length) {
                Row free = between[many];
                for (int each = many; each > index; each--) {
                    between[each] = between[each - 1];
                }
                between[index] = free;
                free.copy(part);
                many++;
            }
        }

        private int sumBelow(int index) {
            int sum = 0;
            for (int each = 0; each < index; each++) {
                if (matcher.contains(between[index], between[each])) {
                    sum += weights[each];
                }
            }
            return sum;
        }

        int ofGreatest() {
            return many > 0 ? weights[many - 1] : 0;
        }

        int total() {
            int sum = 0;
            for (int index = 0; index < many; index++) {
                sum += weights[index];
            }
            return sum;
        }
    }
}
