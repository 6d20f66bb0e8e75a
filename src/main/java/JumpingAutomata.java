import java.util.NoSuchElementException;

/**
 * A laboratory for one automaton that is read in order, jumping, and one-way jumping.
 *
 * Sets of states are masks (bit k for state k), and counts are codes of three digits
 * (100 times the first number plus 10 times the second one plus the third one), so that
 * the order of the codes is the lexicographic order of the counts.
 */
public final class JumpingAutomata {
    private static final int STATES = 5;
    private static final int LETTERS = 3;
    private static final int MASKS = 32;
    private static final int ALL_STATES = MASKS - 1;
    private static final int INITIAL = 1;
    private static final int SOURCES = STATES * LETTERS;
    private static final int TRANSITION_LIMIT = 15;

    private static final int WORD_LIMIT = 8;
    private static final int LENGTH_LIMIT = 7;
    private static final int BOUND_LIMIT = 6;
    private static final int DIGIT_LIMIT = 9;
    private static final int CODES = 1000;

    private static final int SETS = 2;
    private static final int LINEAR_LIMIT = 4;
    private static final int ALL_LINEARS = (1 << LINEAR_LIMIT) - 1;
    private static final int PERIOD_LIMIT = 3;
    private static final int LINEAR_CELLS = 2 + PERIOD_LIMIT;
    private static final int SET_CELLS = 1 + LINEAR_LIMIT * LINEAR_CELLS;

    private static final int IN_ORDER = 0;
    private static final int JUMPING = 1;
    private static final int ONE_WAY = 2;

    private final Automaton automaton = new Automaton();
    private final CountingSets sets = new CountingSets();
    private final Memory memory = new Memory();
    private final AutomatonText text = new AutomatonText();
    private final int[] word = new int[WORD_LIMIT];
    private int wordSize = 0;

    private final CountsTable reached = new CountsTable();
    private final CountsTable members = new CountsTable();
    private final CountsList minimals = new CountsList();
    private final CountsList cycles = new CountsList();
    private final CycleFinder cycleFinder = new CycleFinder();
    private final WordSearch search = new WordSearch();
    private final OneWayReader oneWay = new OneWayReader();
    private final BestOrder bestOrder = new BestOrder();
    private boolean orderKnown = false;

    public JumpingAutomata() {
    }

    // ---- the automaton text

    public int appendCharacter(int character) throws IllegalArgumentException, IllegalStateException {
        if (character < 33 || character > 126) {
            throw new IllegalArgumentException("the character is not from 33 to 126");
        }
        if (text.isFull()) {
            throw new IllegalStateException("the text has 40 characters");
        }
        return text.append(character);
    }

    public int faultPosition() {
        return text.fault;
    }

    public int addText() throws IllegalArgumentException, IllegalStateException {
        text.read();
        if (text.fault >= 0) {
            throw new IllegalArgumentException("the text has a fault");
        }
        if (automaton.sizeWith(text.wanted) > TRANSITION_LIMIT) {
            throw new IllegalStateException("there would be more than 15 transitions");
        }
        beginChange();
        automaton.merge(text.wanted, text.wantedFinals);
        endAutomatonChange();
        return automaton.size();
    }

    // ---- the automaton

    public boolean addTransition(int from, int letter, int to)
            throws IndexOutOfBoundsException, IllegalStateException {
        requireTransition(from, letter, to);
        boolean isNew = !automaton.has(from, letter, to);
        if (isNew && automaton.size() >= TRANSITION_LIMIT) {
            throw new IllegalStateException("there are 15 transitions");
        }
        beginChange();
        automaton.put(from, letter, to);
        endAutomatonChange();
        return isNew;
    }

    public void removeTransition(int from, int letter, int to)
            throws IndexOutOfBoundsException, NoSuchElementException {
        requireTransition(from, letter, to);
        if (!automaton.has(from, letter, to)) {
            throw new NoSuchElementException("the transition does not exist");
        }
        beginChange();
        automaton.drop(from, letter, to);
        endAutomatonChange();
    }

    public boolean setFinal(int state, boolean on) throws IndexOutOfBoundsException {
        if (!isState(state)) {
            throw new IndexOutOfBoundsException("there is no such state");
        }
        boolean before = automaton.accepting(1 << state);
        beginChange();
        automaton.markFinal(state, on);
        endAutomatonChange();
        return before;
    }

    public void clearAutomaton() {
        beginChange();
        automaton.wipe();
        endAutomatonChange();
    }

    public int transitionCount() {
        return automaton.size();
    }

    public int transition(int index) throws IndexOutOfBoundsException {
        if (index < 0 || index >= automaton.size()) {
            throw new IndexOutOfBoundsException("there is no such transition");
        }
        return automaton.codeAt(index);
    }

    public boolean isDeterministic() {
        return automaton.hasSingleTargets();
    }

    public int usefulStates() {
        return automaton.useful();
    }

    // ---- the current word

    public int appendLetter(int letter) throws IllegalArgumentException, IllegalStateException {
        if (!isLetter(letter)) {
            throw new IllegalArgumentException("the letter is out of range");
        }
        if (wordSize < 0 || wordSize >= WORD_LIMIT) {
            throw new IllegalStateException("the word has 8 letters");
        }
        word[wordSize] = letter;
        wordSize++;
        orderKnown = false;
        return wordSize;
    }

    public int clearWord() {
        int before = wordSize;
        wordSize = 0;
        orderKnown = false;
        return before;
    }

    public int wordLength() {
        return wordSize;
    }

    public int letterAt(int position) throws IndexOutOfBoundsException {
        if (!isPosition(position)) {
            throw new IndexOutOfBoundsException("there is no such position");
        }
        return word[position];
    }

    // ---- reading the current word

    public boolean accepts(int mode) throws IllegalArgumentException, UnsupportedOperationException {
        requireMode(mode);
        requireReadable(mode);
        if (mode == IN_ORDER) {
            return automaton.accepting(automaton.statesAfter(word, wordSize));
        }
        if (mode == JUMPING) {
            return wordIsReached();
        }
        oneWay.read(automaton, word, wordSize);
        return oneWay.accepted(automaton);
    }

    public long runCount() {
        return search.countRuns(automaton, word, wordSize);
    }

    public long acceptedArrangements() {
        return search.countArrangements(automaton, word, wordSize);
    }

    public int takeArrangement(int rank) throws IllegalArgumentException, NoSuchElementException {
        if (rank < 0) {
            throw new IllegalArgumentException("the rank is negative");
        }
        if (!search.findArrangement(automaton, word, wordSize, rank)) {
            throw new NoSuchElementException("there is no such arrangement");
        }
        takeWord(wordSize);
        return wordSize;
    }

    public int oneWayJumps() throws UnsupportedOperationException {
        requireSingleTargets();
        oneWay.read(automaton, word, wordSize);
        return oneWay.jumps;
    }

    public int oneWayRest() throws UnsupportedOperationException {
        requireSingleTargets();
        oneWay.read(automaton, word, wordSize);
        return oneWay.restSize;
    }

    public int orderCost() throws NoSuchElementException {
        if (!findBestOrder()) {
            throw new NoSuchElementException("there is no reading order");
        }
        return bestOrder.cost;
    }

    public int orderPosition(int index) throws IndexOutOfBoundsException, NoSuchElementException {
        if (!isPosition(index)) {
            throw new IndexOutOfBoundsException("there is no such index");
        }
        if (!findBestOrder()) {
            throw new NoSuchElementException("there is no reading order");
        }
        return bestOrder.order[index];
    }

    // ---- counts of the automaton

    public boolean reaches(int a, int b, int c) throws IllegalArgumentException {
        requireDigits(a, b, c);
        reached.fillReached(automaton, a, b, c);
        return automaton.accepting(reached.at(codeOf(a, b, c)));
    }

    public int minimalCount() {
        gatherMinimals();
        return minimals.size;
    }

    public int minimal(int index) throws IndexOutOfBoundsException {
        gatherMinimals();
        if (index < 0 || index >= minimals.size) {
            throw new IndexOutOfBoundsException("there are no such minimal counts");
        }
        return minimals.at(index);
    }

    public int cycleCount() {
        cycleFinder.gather(automaton, cycles);
        return cycles.size;
    }

    public int cycle(int index) throws IndexOutOfBoundsException {
        cycleFinder.gather(automaton, cycles);
        if (index < 0 || index >= cycles.size) {
            throw new IndexOutOfBoundsException("there are no such cycle counts");
        }
        return cycles.at(index);
    }

    // ---- counting sets

    public int addLinearSet(int set, int a, int b, int c)
            throws IndexOutOfBoundsException, IllegalArgumentException, IllegalStateException {
        requireSet(set);
        requireDigits(a, b, c);
        if (sets.linearCount(set) >= LINEAR_LIMIT) {
            throw new IllegalStateException("the counting set has 4 linear sets");
        }
        beginChange();
        return sets.addLinear(set, codeOf(a, b, c));
    }

    public int addPeriod(int set, int linear, int a, int b, int c)
            throws IndexOutOfBoundsException, IllegalArgumentException, IllegalStateException {
        requireLinear(set, linear);
        if (!areDigits(a, b, c) || codeOf(a, b, c) == 0) {
            throw new IllegalArgumentException("a number is out of range, or all are 0");
        }
        if (sets.periodCount(set, linear) >= PERIOD_LIMIT) {
            throw new IllegalStateException("the linear set has 3 periods");
        }
        beginChange();
        return sets.putPeriod(set, linear, codeOf(a, b, c));
    }

    public int clearSet(int set) throws IndexOutOfBoundsException {
        requireSet(set);
        beginChange();
        return sets.wipe(set);
    }

    public boolean contains(int set, int a, int b, int c)
            throws IndexOutOfBoundsException, IllegalArgumentException {
        requireSet(set);
        requireDigits(a, b, c);
        members.fillMembers(sets, set, a, b, c);
        return members.at(codeOf(a, b, c)) != 0;
    }

    public int elements(int set, int bound) throws IndexOutOfBoundsException, IllegalArgumentException {
        requireSet(set);
        requireBound(bound);
        members.fillMembers(sets, set, bound, bound, bound);
        return members.countMeeting(ALL_LINEARS, bound);
    }

    public int reachedCounts(int bound) throws IllegalArgumentException {
        requireBound(bound);
        reached.fillReached(automaton, bound, bound, bound);
        return reached.countMeeting(automaton.finals, bound);
    }

    public int firstMissing(int set, int bound)
            throws IndexOutOfBoundsException, IllegalArgumentException, NoSuchElementException {
        requireSet(set);
        requireBound(bound);
        return firstDifference(set, bound, true);
    }

    public int firstExtra(int set, int bound)
            throws IndexOutOfBoundsException, IllegalArgumentException, NoSuchElementException {
        requireSet(set);
        requireBound(bound);
        return firstDifference(set, bound, false);
    }

    public boolean hasCyclePeriods(int set, int linear) throws IndexOutOfBoundsException {
        requireLinear(set, linear);
        cycleFinder.gather(automaton, cycles);
        int periods = sets.periodCount(set, linear);
        for (int i = 0; i < periods; i++) {
            if (!cycles.holds(sets.period(set, linear, i))) {
                return false;
            }
        }
        return true;
    }

    // ---- numbers of words

    public long acceptedWords(int mode, int length)
            throws IllegalArgumentException, UnsupportedOperationException {
        requireMode(mode);
        requireLength(length);
        requireReadable(mode);
        return countWords(mode, length);
    }

    public boolean isClosed(int length) throws IllegalArgumentException {
        requireLength(length);
        return shortestOpenLength(length) < 0;
    }

    public int takeOpenWord(int length) throws IllegalArgumentException, NoSuchElementException {
        requireLength(length);
        int openLength = shortestOpenLength(length);
        if (openLength < 0 || !search.findOpenWord(automaton, reached, openLength)) {
            throw new NoSuchElementException("there is no such word");
        }
        takeWord(openLength);
        return wordSize;
    }

    public double density(int mode, int length)
            throws IllegalArgumentException, UnsupportedOperationException {
        requireMode(mode);
        requireLength(length);
        requireReadable(mode);
        long all = 1;
        for (int i = 0; i < length; i++) {
            all *= LETTERS;
        }
        return (double) countWords(mode, length) / (double) all;
    }

    public float averageMinimum() throws ArithmeticException {
        gatherMinimals();
        if (minimals.size <= 0) {
            throw new ArithmeticException("there are no minimal counts");
        }
        return (float) minimals.sumOfNumbers() / (float) minimals.size;
    }

    // ---- changes

    public int undo() throws IllegalStateException {
        if (memory.size <= 0) {
            throw new IllegalStateException("there is no change to take back");
        }
        memory.pop(automaton, sets);
        endAutomatonChange();
        return memory.size;
    }

    public void save() {
        memory.keep(automaton, sets);
    }

    public void restore() throws IllegalStateException {
        if (!memory.hasKept) {
            throw new IllegalStateException("nothing was saved");
        }
        beginChange();
        memory.recall(automaton, sets);
        endAutomatonChange();
    }

    // ---- ranges

    private static boolean isState(int state) {
        return state >= 0 && state < STATES;
    }

    private static boolean isLetter(int letter) {
        return letter >= 0 && letter < LETTERS;
    }

    private static boolean isTransition(int from, int letter, int to) {
        return isState(from) && isLetter(letter) && isState(to);
    }

    private static boolean isSet(int set) {
        return set >= 0 && set < SETS;
    }

    private static boolean isDigit(int number) {
        return number >= 0 && number <= DIGIT_LIMIT;
    }

    private static boolean areDigits(int a, int b, int c) {
        return isDigit(a) && isDigit(b) && isDigit(c);
    }

    private boolean isPosition(int position) {
        return position >= 0 && position < wordSize && position < WORD_LIMIT;
    }

    // ---- what the calls refuse

    private static void requireTransition(int from, int letter, int to) {
        if (!isTransition(from, letter, to)) {
            throw new IndexOutOfBoundsException("there is no such state or letter");
        }
    }

    private static void requireSet(int set) {
        if (!isSet(set)) {
            throw new IndexOutOfBoundsException("there is no such counting set");
        }
    }

    private void requireLinear(int set, int linear) {
        if (!sets.hasLinear(set, linear)) {
            throw new IndexOutOfBoundsException("there is no such counting set or linear set");
        }
    }

    private static void requireDigits(int a, int b, int c) {
        if (!areDigits(a, b, c)) {
            throw new IllegalArgumentException("a number is out of range");
        }
    }

    private static void requireBound(int bound) {
        if (bound < 0 || bound > BOUND_LIMIT) {
            throw new IllegalArgumentException("the bound is out of range");
        }
    }

    private static void requireLength(int length) {
        if (length < 0 || length > LENGTH_LIMIT) {
            throw new IllegalArgumentException("the length is out of range");
        }
    }

    private static void requireMode(int mode) {
        if (mode < IN_ORDER || mode > ONE_WAY) {
            throw new IllegalArgumentException("the mode is out of range");
        }
    }

    private void requireReadable(int mode) {
        if (mode == ONE_WAY) {
            requireSingleTargets();
        }
    }

    private void requireSingleTargets() {
        if (!automaton.hasSingleTargets()) {
            throw new UnsupportedOperationException("the automaton is not deterministic");
        }
    }

    // ---- counts as codes

    private static int codeOf(int a, int b, int c) {
        return 100 * a + 10 * b + c;
    }

    private static int weightOf(int letter) {
        return letter == 0 ? 100 : letter == 1 ? 10 : 1;
    }

    private static int firstOf(int code) {
        return code / 100;
    }

    private static int secondOf(int code) {
        return code / 10 % 10;
    }

    private static int thirdOf(int code) {
        return code % 10;
    }

    // ---- what several calls share

    /** Only a call that is sure to succeed may begin a change, since it is remembered here. */
    private void beginChange() {
        memory.push(automaton, sets);
    }

    private void endAutomatonChange() {
        automaton.rebuild();
        orderKnown = false;
    }

    private void takeWord(int length) {
        if (length < 0 || length > WORD_LIMIT) {
            return;
        }
        System.arraycopy(search.letters, 0, word, 0, length);
        wordSize = length;
        orderKnown = false;
    }

    private boolean wordIsReached() {
        int code = 0;
        for (int i = 0; i < wordSize && i < WORD_LIMIT; i++) {
            code += weightOf(word[i]);
        }
        reached.fillReached(automaton, firstOf(code), secondOf(code), thirdOf(code));
        return automaton.accepting(reached.at(code));
    }

    private boolean findBestOrder() {
        if (!orderKnown) {
            bestOrder.find(automaton, word, wordSize);
            orderKnown = true;
        }
        return bestOrder.cost < BestOrder.NONE;
    }

    /** A run without cycles has fewer letters than there are states, so longer words need no look. */
    private void gatherMinimals() {
        int top = STATES - 1;
        reached.fillReached(automaton, top, top, top);
        minimals.clear();
        for (int a = 0; a <= top; a++) {
            for (int b = 0; a + b <= top; b++) {
                for (int c = 0; a + b + c <= top; c++) {
                    int code = codeOf(a, b, c);
                    // Lesser counts come first in this order, so those that matter are in the list.
                    if (automaton.accepting(reached.at(code)) && !minimals.hasBelow(code)) {
                        minimals.insert(code);
                    }
                }
            }
        }
    }

    /** The first counts that are reached and no members, or the other way round. */
    private int firstDifference(int set, int bound, boolean wantReached) {
        reached.fillReached(automaton, bound, bound, bound);
        members.fillMembers(sets, set, bound, bound, bound);
        for (int sum = 0; sum <= 3 * bound; sum++) {
            for (int a = 0; a <= bound && a <= sum; a++) {
                for (int b = 0; b <= bound && a + b <= sum; b++) {
                    int c = sum - a - b;
                    if (c <= bound && isDifference(codeOf(a, b, c), wantReached)) {
                        return codeOf(a, b, c);
                    }
                }
            }
        }
        throw new NoSuchElementException("there are no such counts");
    }

    private boolean isDifference(int code, boolean wantReached) {
        boolean isReached = automaton.accepting(reached.at(code));
        boolean isMember = members.at(code) != 0;
        return isReached == wantReached && isMember != wantReached;
    }

    private long countWords(int mode, int length) {
        if (mode == IN_ORDER) {
            return search.countInOrder(automaton, length);
        }
        if (mode == JUMPING) {
            reached.fillReached(automaton, length, length, length);
            return countJumping(length);
        }
        return oneWay.countAccepted(automaton, length);
    }

    /** The table of reached counts must have been filled up to the length. */
    private long countJumping(int length) {
        long total = 0;
        for (int a = 0; a <= length; a++) {
            for (int b = 0; a + b <= length; b++) {
                int c = length - a - b;
                if (automaton.accepting(reached.at(codeOf(a, b, c)))) {
                    total += choose(length, a) * choose(b + c, b);
                }
            }
        }
        return total;
    }

    private static long choose(int all, int some) {
        long ways = 1;
        for (int i = 1; i <= some; i++) {
            ways = ways * (all - some + i) / i;
        }
        return ways;
    }

    /**
     * The least length with a word that is accepted jumping, but not in order, or -1. Each word that
     * is accepted in order is accepted jumping, so the two numbers of words tell the lengths apart.
     */
    private int shortestOpenLength(int longest) {
        reached.fillReached(automaton, longest, longest, longest);
        for (int length = 0; length <= longest; length++) {
            if (countJumping(length) != search.countInOrder(automaton, length)) {
                return length;
            }
        }
        return -1;
    }

    /** The transitions and the final states, with a table of the steps of sets of states. */
    private static final class Automaton {
        static final int ROW_CELLS = SOURCES + 1;

        /** The targets of each source and letter. */
        private final int[] targets = new int[SOURCES];
        /** The states after a letter for each set of states before it. */
        private final int[] steps = new int[LETTERS * MASKS];
        int finals = 0;

        boolean accepting(int mask) {
            return (mask & finals) != 0;
        }

        int targetsOf(int from, int letter) {
            return isState(from) && isLetter(letter) ? targets[from * LETTERS + letter] : 0;
        }

        int step(int letter, int mask) {
            return isLetter(letter) ? steps[letter * MASKS + (mask & ALL_STATES)] : 0;
        }

        int statesAfter(int[] letters, int length) {
            int mask = INITIAL;
            for (int i = 0; i < length && i < letters.length; i++) {
                mask = step(letters[i], mask);
            }
            return mask;
        }

        boolean has(int from, int letter, int to) {
            return isState(to) && ((targetsOf(from, letter) >> to) & 1) != 0;
        }

        void put(int from, int letter, int to) {
            if (isTransition(from, letter, to)) {
                targets[from * LETTERS + letter] |= 1 << to;
            }
        }

        void drop(int from, int letter, int to) {
            if (isTransition(from, letter, to)) {
                targets[from * LETTERS + letter] &= ~(1 << to);
            }
        }

        void markFinal(int state, boolean on) {
            if (isState(state)) {
                finals = on ? finals | (1 << state) : finals & ~(1 << state);
            }
        }

        void wipe() {
            for (int i = 0; i < SOURCES; i++) {
                targets[i] = 0;
            }
            finals = 0;
        }

        int size() {
            int size = 0;
            for (int i = 0; i < SOURCES; i++) {
                size += Integer.bitCount(targets[i]);
            }
            return size;
        }

        int sizeWith(int[] wanted) {
            int size = 0;
            for (int i = 0; i < SOURCES && i < wanted.length; i++) {
                size += Integer.bitCount(targets[i] | wanted[i]);
            }
            return size;
        }

        void merge(int[] wanted, int wantedFinals) {
            for (int i = 0; i < SOURCES && i < wanted.length; i++) {
                targets[i] |= wanted[i];
            }
            finals |= wantedFinals;
        }

        /** The code of the transition at a place of the order, or -1. */
        int codeAt(int index) {
            int left = index;
            for (int from = 0; from < STATES; from++) {
                for (int letter = 0; letter < LETTERS; letter++) {
                    for (int to = 0; to < STATES; to++) {
                        if (has(from, letter, to)) {
                            if (left == 0) {
                                return codeOf(from, letter, to);
                            }
                            left--;
                        }
                    }
                }
            }
            return -1;
        }

        boolean hasSingleTargets() {
            for (int i = 0; i < SOURCES; i++) {
                if ((targets[i] & (targets[i] - 1)) != 0) {
                    return false;
                }
            }
            return true;
        }

        int useful() {
            int from = INITIAL;
            int towards = finals;
            // A path that meets no state twice is shorter than the number of states.
            for (int round = 1; round < STATES; round++) {
                from |= step(0, from) | step(1, from) | step(2, from);
                towards |= statesBefore(towards);
            }
            return from & towards;
        }

        private int statesBefore(int mask) {
            int before = 0;
            for (int i = 0; i < SOURCES; i++) {
                if ((targets[i] & mask) != 0) {
                    before |= 1 << (i / LETTERS);
                }
            }
            return before;
        }

        /** Must follow each change of the transitions. */
        void rebuild() {
            for (int letter = 0; letter < LETTERS; letter++) {
                int row = letter * MASKS;
                steps[row] = 0;
                for (int state = 0; state < STATES; state++) {
                    int single = 1 << state;
                    int after = targets[state * LETTERS + letter];
                    for (int lower = 0; lower < single; lower++) {
                        steps[row + single + lower] = steps[row + lower] | after;
                    }
                }
            }
        }

        void writeTo(int[] row) {
            if (row.length >= ROW_CELLS) {
                System.arraycopy(targets, 0, row, 0, SOURCES);
                row[SOURCES] = finals;
            }
        }

        void readFrom(int[] row) {
            if (row.length >= ROW_CELLS) {
                System.arraycopy(row, 0, targets, 0, SOURCES);
                finals = row[SOURCES];
            }
        }
    }

    /**
     * Both counting sets in one row. A counting set has the number of its linear sets and then,
     * for each of them, the base, the number of periods, and the periods.
     */
    private static final class CountingSets {
        static final int ROW_CELLS = SETS * SET_CELLS;

        private final int[] cells = new int[ROW_CELLS];

        int linearCount(int set) {
            return isSet(set) ? cells[set * SET_CELLS] : 0;
        }

        boolean hasLinear(int set, int linear) {
            return isSet(set) && linear >= 0 && linear < LINEAR_LIMIT && linear < cells[set * SET_CELLS];
        }

        int base(int set, int linear) {
            return hasLinear(set, linear) ? cells[placeOf(set, linear)] : 0;
        }

        int periodCount(int set, int linear) {
            return hasLinear(set, linear) ? cells[placeOf(set, linear) + 1] : 0;
        }

        int period(int set, int linear, int index) {
            boolean exists = index >= 0 && index < PERIOD_LIMIT && index < periodCount(set, linear);
            return exists ? cells[placeOf(set, linear) + 2 + index] : 0;
        }

        /** Returns the number of the new linear set. */
        int addLinear(int set, int base) {
            int linear = linearCount(set);
            if (isSet(set) && linear >= 0 && linear < LINEAR_LIMIT) {
                cells[set * SET_CELLS] = linear + 1;
                cells[placeOf(set, linear)] = base;
                cells[placeOf(set, linear) + 1] = 0;
            }
            return linear;
        }

        /** Returns the new number of periods. */
        int putPeriod(int set, int linear, int period) {
            int count = periodCount(set, linear);
            if (!hasLinear(set, linear) || count < 0 || count >= PERIOD_LIMIT) {
                return count;
            }
            cells[placeOf(set, linear) + 2 + count] = period;
            cells[placeOf(set, linear) + 1] = count + 1;
            return count + 1;
        }

        /** Returns the number of linear sets that the counting set had. */
        int wipe(int set) {
            int before = linearCount(set);
            if (isSet(set)) {
                cells[set * SET_CELLS] = 0;
            }
            return before;
        }

        void writeTo(int[] row, int start) {
            if (start >= 0 && start <= row.length - ROW_CELLS) {
                System.arraycopy(cells, 0, row, start, ROW_CELLS);
            }
        }

        void readFrom(int[] row, int start) {
            if (start >= 0 && start <= row.length - ROW_CELLS) {
                System.arraycopy(row, start, cells, 0, ROW_CELLS);
            }
        }

        private static int placeOf(int set, int linear) {
            return set * SET_CELLS + 1 + linear * LINEAR_CELLS;
        }
    }

    /** What was before each of the latest changes, in a ring, and what was saved. */
    private static final class Memory {
        private static final int DEPTH = 8;
        private static final int LAST = DEPTH - 1;
        private static final int ROW_CELLS = Automaton.ROW_CELLS + CountingSets.ROW_CELLS;

        private final int[][] ring = new int[DEPTH][ROW_CELLS];
        private final int[] kept = new int[ROW_CELLS];
        private int end = 0;
        int size = 0;
        boolean hasKept = false;

        void push(Automaton automaton, CountingSets sets) {
            write(ring[end & LAST], automaton, sets);
            end = (end + 1) & LAST;
            size = size < DEPTH ? size + 1 : DEPTH;
        }

        void pop(Automaton automaton, CountingSets sets) {
            if (size > 0) {
                end = (end - 1) & LAST;
                size--;
                read(ring[end], automaton, sets);
            }
        }

        void keep(Automaton automaton, CountingSets sets) {
            write(kept, automaton, sets);
            hasKept = true;
        }

        void recall(Automaton automaton, CountingSets sets) {
            if (hasKept) {
                read(kept, automaton, sets);
            }
        }

        private static void write(int[] row, Automaton automaton, CountingSets sets) {
            automaton.writeTo(row);
            sets.writeTo(row, Automaton.ROW_CELLS);
        }

        private static void read(int[] row, Automaton automaton, CountingSets sets) {
            automaton.readFrom(row);
            sets.readFrom(row, Automaton.ROW_CELLS);
        }
    }

    /** The text, and the transitions and final states that it wanted when it was read last. */
    private static final class AutomatonText {
        private static final int TEXT_LIMIT = 40;

        private static final int BEFORE_ITEM = 0;
        private static final int AFTER_SOURCE = 1;
        private static final int AFTER_LETTER = 2;
        private static final int AFTER_MARK = 3;
        private static final int AFTER_ITEM = 4;
        private static final int FAULT = 5;

        private final int[] signs = new int[TEXT_LIMIT];
        private int size = 0;
        int fault = -1;
        final int[] wanted = new int[SOURCES];
        int wantedFinals = 0;

        boolean isFull() {
            return size < 0 || size >= TEXT_LIMIT;
        }

        /** Returns the new length. */
        int append(int sign) {
            if (!isFull()) {
                signs[size] = sign;
                size++;
            }
            return size;
        }

        /** Finds the fault or what the text wants, and empties the text. */
        void read() {
            fault = findFault();
            if (fault < 0) {
                gatherItems();
            }
            size = 0;
        }

        private int findFault() {
            int stage = BEFORE_ITEM;
            for (int i = 0; i < size && i < TEXT_LIMIT; i++) {
                stage = stageAfter(stage, signs[i]);
                if (stage == FAULT) {
                    return i;
                }
            }
            return stage == AFTER_ITEM ? -1 : size;
        }

        private static int stageAfter(int stage, int sign) {
            boolean isStateSign = isState(sign - '0');
            switch (stage) {
                case BEFORE_ITEM:
                    return isStateSign ? AFTER_SOURCE : sign == '!' ? AFTER_MARK : FAULT;
                case AFTER_SOURCE:
                    return isLetter(sign - 'a') ? AFTER_LETTER : FAULT;
                case AFTER_LETTER:
                case AFTER_MARK:
                    return isStateSign ? AFTER_ITEM : FAULT;
                default:
                    return sign == ',' ? BEFORE_ITEM : FAULT;
            }
        }

        /** Each item ends with the digit of a state, and nothing else has a "!" or a letter before it. */
        private void gatherItems() {
            for (int i = 0; i < SOURCES; i++) {
                wanted[i] = 0;
            }
            wantedFinals = 0;
            for (int i = 1; i < size && i < TEXT_LIMIT; i++) {
                int state = signs[i] - '0';
                int letter = signs[i - 1] - 'a';
                if (isState(state) && signs[i - 1] == '!') {
                    wantedFinals |= 1 << state;
                } else if (isState(state) && isLetter(letter) && i >= 2) {
                    wantTransition(signs[i - 2] - '0', letter, state);
                }
            }
        }

        private void wantTransition(int from, int letter, int to) {
            if (isTransition(from, letter, to)) {
                wanted[from * LETTERS + letter] |= 1 << to;
            }
        }
    }

    /** A mask for each counts of a box, the counts with numbers from 0 to three tops. */
    private static final class CountsTable {
        private final int[] masks = new int[CODES];

        int at(int code) {
            return code >= 0 && code < CODES ? masks[code] : 0;
        }

        /** The mask of counts becomes the set of states that words with these counts lead to. */
        void fillReached(Automaton automaton, int topA, int topB, int topC) {
            if (!areDigits(topA, topB, topC)) {
                return;
            }
            for (int a = 0; a <= topA; a++) {
                for (int b = 0; b <= topB; b++) {
                    for (int c = 0; c <= topC; c++) {
                        int code = codeOf(a, b, c);
                        int mask = code == 0 ? INITIAL : 0;
                        mask |= a > 0 ? automaton.step(0, masks[code - 100]) : 0;
                        mask |= b > 0 ? automaton.step(1, masks[code - 10]) : 0;
                        mask |= c > 0 ? automaton.step(2, masks[code - 1]) : 0;
                        masks[code] = mask;
                    }
                }
            }
        }

        /** The mask of counts becomes the set of the linear sets that contain them. */
        void fillMembers(CountingSets sets, int set, int topA, int topB, int topC) {
            if (!areDigits(topA, topB, topC)) {
                return;
            }
            int top = codeOf(topA, topB, topC);
            empty(top);
            int linears = sets.linearCount(set);
            for (int linear = 0; linear < linears && linear < LINEAR_LIMIT; linear++) {
                mark(sets.base(set, linear), 1 << linear);
                int periods = sets.periodCount(set, linear);
                for (int i = 0; i < periods && i < PERIOD_LIMIT; i++) {
                    spread(sets.period(set, linear, i), 1 << linear, top);
                }
            }
        }

        int countMeeting(int wanted, int bound) {
            int count = 0;
            for (int a = 0; a <= bound; a++) {
                for (int b = 0; b <= bound; b++) {
                    for (int c = 0; c <= bound; c++) {
                        count += (at(codeOf(a, b, c)) & wanted) != 0 ? 1 : 0;
                    }
                }
            }
            return count;
        }

        private void empty(int top) {
            for (int i = 0; i < CODES && i <= top; i++) {
                masks[i] = 0;
            }
        }

        /** A base outside the box does no harm: nothing inside is reached from it. */
        private void mark(int code, int bit) {
            if (code >= 0 && code < CODES) {
                masks[code] |= bit;
            }
        }

        /** The counts less a period come before the counts, so any number of copies is added. */
        private void spread(int period, int bit, int top) {
            if (period < 0 || period >= CODES || top < 0 || top >= CODES) {
                return;
            }
            int topA = firstOf(top);
            int topB = secondOf(top);
            int topC = thirdOf(top);
            for (int a = firstOf(period); a <= topA; a++) {
                for (int b = secondOf(period); b <= topB; b++) {
                    for (int c = thirdOf(period); c <= topC; c++) {
                        int code = codeOf(a, b, c);
                        masks[code] |= masks[code - period] & bit;
                    }
                }
            }
        }
    }

    /** Different counts in lexicographic order. */
    private static final class CountsList {
        /** The counts of at most 5 letters are 56, and nothing longer is listed. */
        private static final int LIST_LIMIT = 56;

        private final int[] codes = new int[LIST_LIMIT];
        int size = 0;

        void clear() {
            size = 0;
        }

        int at(int index) {
            return index >= 0 && index < size && index < LIST_LIMIT ? codes[index] : -1;
        }

        boolean holds(int code) {
            for (int i = 0; i < size && i < LIST_LIMIT; i++) {
                if (codes[i] == code) {
                    return true;
                }
            }
            return false;
        }

        void insert(int code) {
            if (holds(code) || size < 0 || size >= LIST_LIMIT) {
                return;
            }
            int place = size;
            while (place > 0 && codes[place - 1] > code) {
                codes[place] = codes[place - 1];
                place--;
            }
            codes[place] = code;
            size++;
        }

        boolean hasBelow(int code) {
            for (int i = 0; i < size && i < LIST_LIMIT; i++) {
                if (firstOf(codes[i]) <= firstOf(code) && secondOf(codes[i]) <= secondOf(code)
                        && thirdOf(codes[i]) <= thirdOf(code)) {
                    return true;
                }
            }
            return false;
        }

        int sumOfNumbers() {
            int sum = 0;
            for (int i = 0; i < size && i < LIST_LIMIT; i++) {
                sum += firstOf(codes[i]) + secondOf(codes[i]) + thirdOf(codes[i]);
            }
            return sum;
        }
    }

    /** Walks along the simple cycles; each is walked from its least state alone. */
    private static final class CycleFinder {
        private int start = 0;

        void gather(Automaton automaton, CountsList found) {
            found.clear();
            int useful = automaton.useful();
            for (int state = 0; state < STATES; state++) {
                if (((useful >> state) & 1) != 0) {
                    start = state;
                    // The states that may still be met are the free ones.
                    int free = useful & (-2 << state);
                    walk(automaton, found, state, free, 0, 0);
                }
            }
        }

        private void walk(Automaton automaton, CountsList found, int at, int free, int code, int depth) {
            if (depth >= STATES) {
                return;
            }
            for (int letter = 0; letter < LETTERS; letter++) {
                int targets = automaton.targetsOf(at, letter);
                int longer = code + weightOf(letter);
                if (((targets >> start) & 1) != 0) {
                    found.insert(longer);
                }
                for (int to = start + 1; to < STATES; to++) {
                    if ((targets & free & (1 << to)) != 0) {
                        walk(automaton, found, to, free & ~(1 << to), longer, depth + 1);
                    }
                }
            }
        }
    }

    /** Counts runs and words in order, and finds words among arrangements and among all words. */
    private static final class WordSearch {
        /** The word that was found last. */
        final int[] letters = new int[WORD_LIMIT];
        private final int[] left = new int[LETTERS];
        private int length = 0;
        private int seen = 0;
        private int wanted = 0;
        private final long[] row = new long[MASKS];
        private final long[] nextRow = new long[MASKS];

        long countRuns(Automaton automaton, int[] word, int size) {
            clearRow(row);
            row[0] = 1;
            for (int i = 0; i < size && i < word.length; i++) {
                clearRow(nextRow);
                for (int from = 0; from < STATES; from++) {
                    int targets = automaton.targetsOf(from, word[i]);
                    for (int to = 0; to < STATES; to++) {
                        nextRow[to] += ((targets >> to) & 1) != 0 ? row[from] : 0;
                    }
                }
                System.arraycopy(nextRow, 0, row, 0, MASKS);
            }
            long runs = 0;
            for (int state = 0; state < STATES; state++) {
                runs += automaton.accepting(1 << state) ? row[state] : 0;
            }
            return runs;
        }

        /** Words that lead to the same set of states are counted together. */
        long countInOrder(Automaton automaton, int size) {
            clearRow(row);
            row[INITIAL] = 1;
            for (int i = 0; i < size; i++) {
                clearRow(nextRow);
                for (int mask = 0; mask < MASKS; mask++) {
                    for (int letter = 0; letter < LETTERS; letter++) {
                        nextRow[automaton.step(letter, mask) & ALL_STATES] += row[mask];
                    }
                }
                System.arraycopy(nextRow, 0, row, 0, MASKS);
            }
            long words = 0;
            for (int mask = 0; mask < MASKS; mask++) {
                words += automaton.accepting(mask) ? row[mask] : 0;
            }
            return words;
        }

        long countArrangements(Automaton automaton, int[] word, int size) {
            findArrangement(automaton, word, size, -1);
            return seen;
        }

        /** Whether there is an accepted arrangement of a rank; no arrangement has the rank -1. */
        boolean findArrangement(Automaton automaton, int[] word, int size, int rank) {
            for (int letter = 0; letter < LETTERS; letter++) {
                left[letter] = 0;
            }
            for (int i = 0; i < size && i < word.length; i++) {
                if (isLetter(word[i])) {
                    left[word[i]]++;
                }
            }
            length = size;
            seen = 0;
            wanted = rank;
            return arrange(automaton, 0, INITIAL);
        }

        private boolean arrange(Automaton automaton, int depth, int mask) {
            if (depth >= length || depth >= WORD_LIMIT) {
                if (!automaton.accepting(mask)) {
                    return false;
                }
                seen++;
                return seen - 1 == wanted;
            }
            for (int letter = 0; letter < LETTERS; letter++) {
                int next = automaton.step(letter, mask);
                if (left[letter] > 0 && next != 0) {
                    letters[depth] = letter;
                    left[letter]--;
                    if (arrange(automaton, depth + 1, next)) {
                        return true;
                    }
                    left[letter]++;
                }
            }
            return false;
        }

        /** The table must hold the reached counts up to the size. */
        boolean findOpenWord(Automaton automaton, CountsTable reached, int size) {
            length = size;
            return open(automaton, reached, 0, INITIAL, 0);
        }

        private boolean open(Automaton automaton, CountsTable reached, int depth, int mask, int code) {
            if (depth >= length || depth >= WORD_LIMIT) {
                return automaton.accepting(reached.at(code)) && !automaton.accepting(mask);
            }
            for (int letter = 0; letter < LETTERS; letter++) {
                letters[depth] = letter;
                int next = automaton.step(letter, mask);
                if (open(automaton, reached, depth + 1, next, code + weightOf(letter))) {
                    return true;
                }
            }
            return false;
        }

        private static void clearRow(long[] cells) {
            for (int i = 0; i < cells.length; i++) {
                cells[i] = 0;
            }
        }
    }

    /**
     * One-way jumping as rounds along the circle: the letters that are passed in a round are,
     * in their order, the letters of the next one. Letters that stay are held two bits each.
     */
    private static final class OneWayReader {
        private int state = INITIAL;
        private int rest = 0;
        int restSize = 0;
        int jumps = 0;
        private boolean passing = false;

        void read(Automaton automaton, int[] word, int size) {
            begin();
            for (int i = 0; i < size && i < word.length; i++) {
                meet(automaton, word[i]);
            }
            finish(automaton, size);
        }

        boolean accepted(Automaton automaton) {
            return restSize == 0 && automaton.accepting(state);
        }

        long countAccepted(Automaton automaton, int size) {
            begin();
            return countFrom(automaton, 0, size);
        }

        /** Words with the same beginning share the reading of it. */
        private long countFrom(Automaton automaton, int depth, int size) {
            int stateHere = state;
            int restHere = rest;
            int restSizeHere = restSize;
            long count = 0;
            if (depth >= size || depth >= WORD_LIMIT) {
                finish(automaton, size);
                count = accepted(automaton) ? 1 : 0;
            } else {
                for (int letter = 0; letter < LETTERS; letter++) {
                    meet(automaton, letter);
                    count += countFrom(automaton, depth + 1, size);
                    state = stateHere;
                    rest = restHere;
                    restSize = restSizeHere;
                }
            }
            return count;
        }

        private void begin() {
            state = INITIAL;
            rest = 0;
            restSize = 0;
            jumps = 0;
            passing = false;
        }

        /** The head meets a letter: it is read, which ends a jump if letters were passed, or it is passed. */
        private void meet(Automaton automaton, int letter) {
            int next = automaton.step(letter, state);
            if (next == 0) {
                rest |= letter << (2 * restSize);
                restSize++;
                passing = true;
                return;
            }
            jumps += passing ? 1 : 0;
            passing = false;
            state = next;
        }

        /** Goes round until nothing is left or a whole round has read nothing. */
        private void finish(Automaton automaton, int size) {
            int before = size;
            for (int round = 0; round < WORD_LIMIT && restSize > 0 && restSize < before; round++) {
                before = restSize;
                int waiting = rest;
                rest = 0;
                restSize = 0;
                for (int i = 0; i < before && i < WORD_LIMIT; i++) {
                    meet(automaton, (waiting >> (2 * i)) & 3);
                }
            }
        }
    }

    /**
     * The best reading order. For each set of positions that have been read and each last one of them
     * there is a packed row of costs: for each state, six bits with the least cost of reading the rest.
     */
    private static final class BestOrder {
        /** Above each cost: a reading order of 8 positions costs less than 8 times 7. */
        static final int NONE = 63;
        private static final int COST_BITS = 6;
        private static final int POSITION_SETS = 1 << WORD_LIMIT;

        private final int[] packedCosts = new int[POSITION_SETS * WORD_LIMIT];
        /** The states after the letters of a set of positions, in any order. */
        private final int[] states = new int[POSITION_SETS];
        /** The packed costs before a position is read next. */
        private final int[] before = new int[WORD_LIMIT];
        private final int[] letters = new int[WORD_LIMIT];
        private int length = 0;
        final int[] order = new int[WORD_LIMIT];
        int cost = NONE;

        void find(Automaton automaton, int[] word, int size) {
            cost = NONE;
            if (size < 0 || size > WORD_LIMIT || size > word.length) {
                return;
            }
            length = size;
            System.arraycopy(word, 0, letters, 0, size);
            int full = (1 << size) - 1;
            fillStates(automaton, full);
            packFinals(automaton, full);
            for (int set = full - 1; set >= 0; set--) {
                fillSet(automaton, set);
            }
            // The way to the first position counts as if the head had stood at position 0.
            cost = costOf(costsAt(0, 0), 0);
            if (cost < NONE) {
                trace(automaton);
            }
        }

        private void fillStates(Automaton automaton, int full) {
            states[0] = INITIAL;
            for (int set = 1; set <= full && set < POSITION_SETS; set++) {
                int mask = 0;
                for (int p = 0; p < length && p < WORD_LIMIT; p++) {
                    if (((set >> p) & 1) != 0) {
                        mask |= automaton.step(letters[p], states[set & ~(1 << p)]);
                    }
                }
                states[set] = mask;
            }
        }

        private void packFinals(Automaton automaton, int full) {
            int packed = 0;
            for (int state = 0; state < STATES; state++) {
                packed |= (automaton.accepting(1 << state) ? 0 : NONE) << (COST_BITS * state);
            }
            for (int last = 0; last < WORD_LIMIT; last++) {
                putCosts(full, last, packed);
            }
        }

        private void fillSet(Automaton automaton, int set) {
            int mask = set >= 0 && set < POSITION_SETS ? states[set] : 0;
            for (int p = 0; p < length && p < WORD_LIMIT; p++) {
                if (((set >> p) & 1) == 0) {
                    before[p] = costsBefore(automaton, set, p, mask);
                }
            }
            for (int last = 0; last < length; last++) {
                if (((set >> last) & 1) != 0 || (set == 0 && last == 0)) {
                    putCosts(set, last, costsFrom(set, last, mask));
                }
            }
        }

        private int costsBefore(Automaton automaton, int set, int p, int mask) {
            int later = costsAt(set | (1 << p), p);
            int packed = 0;
            for (int state = 0; state < STATES; state++) {
                int targets = ((mask >> state) & 1) != 0 ? automaton.targetsOf(state, letters[p]) : 0;
                packed |= leastOf(later, targets) << (COST_BITS * state);
            }
            return packed;
        }

        private int costsFrom(int set, int last, int mask) {
            int packed = 0;
            for (int state = 0; state < STATES; state++) {
                int least = NONE;
                if (((mask >> state) & 1) != 0) {
                    for (int p = 0; p < length && p < WORD_LIMIT; p++) {
                        if (((set >> p) & 1) == 0) {
                            least = Math.min(least, Math.abs(last - p) + costOf(before[p], state));
                        }
                    }
                }
                packed |= least << (COST_BITS * state);
            }
            return packed;
        }

        /** Takes the least position that still allows the least cost, at each index. */
        private void trace(Automaton automaton) {
            int set = 0;
            int last = 0;
            int mask = INITIAL;
            int left = cost;
            for (int i = 0; i < length && i < WORD_LIMIT; i++) {
                int p = nextPosition(automaton, set, last, mask, left);
                order[i] = p;
                mask = automaton.step(letters[p], mask);
                left -= Math.abs(last - p);
                set |= 1 << p;
                last = p;
            }
        }

        private int nextPosition(Automaton automaton, int set, int last, int mask, int left) {
            for (int p = 0; p < length && p < WORD_LIMIT; p++) {
                if (((set >> p) & 1) == 0) {
                    int after = automaton.step(letters[p], mask);
                    if (Math.abs(last - p) + leastOf(costsAt(set | (1 << p), p), after) == left) {
                        return p;
                    }
                }
            }
            return 0;
        }

        private int costsAt(int set, int last) {
            return isPlace(set, last) ? packedCosts[set * WORD_LIMIT + last] : -1;
        }

        private void putCosts(int set, int last, int packed) {
            if (isPlace(set, last)) {
                packedCosts[set * WORD_LIMIT + last] = packed;
            }
        }

        private static boolean isPlace(int set, int last) {
            return set >= 0 && set < POSITION_SETS && last >= 0 && last < WORD_LIMIT;
        }

        private static int costOf(int packed, int state) {
            return (packed >> (COST_BITS * state)) & NONE;
        }

        private static int leastOf(int packed, int mask) {
            int least = NONE;
            for (int state = 0; state < STATES; state++) {
                if (((mask >> state) & 1) != 0) {
                    least = Math.min(least, costOf(packed, state));
                }
            }
            return least;
        }
    }
}
