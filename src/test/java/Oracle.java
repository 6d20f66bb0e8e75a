import java.util.ArrayDeque;
import java.util.ArrayList;
import java.util.HashSet;
import java.util.List;
import java.util.NoSuchElementException;
import java.util.Set;
import java.util.TreeSet;

/**
 * The document's words carried out as directly as can be, by trying everything: all words, all
 * orders, all cycles. It shares no idea of the program, so that the two can be compared.
 */
final class Oracle {
    private static final class State {
        final TreeSet<Integer> transitions = new TreeSet<>();
        final TreeSet<Integer> finals = new TreeSet<>();
        /** set, linear, then base and periods as triples. */
        final List<List<List<int[]>>> sets = new ArrayList<>();

        State() {
            sets.add(new ArrayList<>());
            sets.add(new ArrayList<>());
        }

        State copy() {
            State s = new State();
            s.transitions.addAll(transitions);
            s.finals.addAll(finals);
            for (int i = 0; i < 2; i++) {
                for (List<int[]> linear : sets.get(i)) {
                    s.sets.get(i).add(new ArrayList<>(linear));
                }
            }
            return s;
        }
    }

    private State now = new State();
    private State saved = null;
    private final List<State> past = new ArrayList<>();
    private String text = "";
    private int fault = -1;
    private List<Integer> word = new ArrayList<>();

    private void change() {
        past.add(now.copy());
        if (past.size() > 8) {
            past.remove(0);
        }
    }

    // ---- text

    public int appendCharacter(int character) {
        if (character < 33 || character > 126) throw new IllegalArgumentException();
        if (text.length() == 40) throw new IllegalStateException();
        text += (char) character;
        return text.length();
    }

    public int faultPosition() {
        return fault;
    }

    private static final String PREFIX = "(([0-4][a-c][0-4]|![0-4]),)*([0-4]([a-c][0-4]?)?|![0-4]?)?";
    private static final String WHOLE = "([0-4][a-c][0-4]|![0-4])(,([0-4][a-c][0-4]|![0-4]))*";

    public int addText() {
        String read = text;
        text = "";
        fault = -1;
        if (!read.matches(WHOLE)) {
            fault = read.length();
            for (int i = read.length(); i >= 1; i--) {
                if (!read.substring(0, i).matches(PREFIX)) fault = i - 1;
            }
            throw new IllegalArgumentException();
        }
        TreeSet<Integer> union = new TreeSet<>(now.transitions);
        TreeSet<Integer> finals = new TreeSet<>(now.finals);
        for (String item : read.split(",")) {
            if (item.startsWith("!")) {
                finals.add(item.charAt(1) - '0');
            } else {
                union.add(100 * (item.charAt(0) - '0') + 10 * (item.charAt(1) - 'a') + item.charAt(2) - '0');
            }
        }
        if (union.size() > 15) throw new IllegalStateException();
        change();
        now.transitions.addAll(union);
        now.finals.addAll(finals);
        return union.size();
    }

    // ---- automaton

    private static int codeOf(int from, int letter, int to) {
        if (from < 0 || from > 4 || letter < 0 || letter > 2 || to < 0 || to > 4) throw new IndexOutOfBoundsException();
        return 100 * from + 10 * letter + to;
    }

    public boolean addTransition(int from, int letter, int to) {
        int code = codeOf(from, letter, to);
        if (!now.transitions.contains(code) && now.transitions.size() == 15) throw new IllegalStateException();
        change();
        return now.transitions.add(code);
    }

    public void removeTransition(int from, int letter, int to) {
        int code = codeOf(from, letter, to);
        if (!now.transitions.contains(code)) throw new NoSuchElementException();
        change();
        now.transitions.remove(code);
    }

    public boolean setFinal(int state, boolean on) {
        if (state < 0 || state > 4) throw new IndexOutOfBoundsException();
        change();
        boolean before = now.finals.contains(state);
        if (on) now.finals.add(state);
        else now.finals.remove(state);
        return before;
    }

    public void clearAutomaton() {
        change();
        now.transitions.clear();
        now.finals.clear();
    }

    public int transitionCount() {
        return now.transitions.size();
    }

    public int transition(int index) {
        if (index < 0 || index >= now.transitions.size()) throw new IndexOutOfBoundsException();
        return new ArrayList<>(now.transitions).get(index);
    }

    public boolean isDeterministic() {
        Set<Integer> starts = new HashSet<>();
        for (int t : now.transitions) {
            if (!starts.add(t / 10)) return false;
        }
        return true;
    }

    private boolean leads(int from, int to) {
        Set<Integer> met = new HashSet<>();
        ArrayDeque<Integer> open = new ArrayDeque<>();
        open.add(from);
        while (!open.isEmpty()) {
            int s = open.poll();
            if (!met.add(s)) continue;
            for (int t : now.transitions) {
                if (t / 100 == s) open.add(t % 10);
            }
        }
        return met.contains(to);
    }

    private boolean useful(int state) {
        for (int f : now.finals) {
            if (leads(0, state) && leads(state, f)) return true;
        }
        return false;
    }

    public int usefulStates() {
        int set = 0;
        for (int s = 0; s < 5; s++) {
            if (useful(s)) set |= 1 << s;
        }
        return set;
    }

    // ---- word

    public int appendLetter(int letter) {
        if (letter < 0 || letter > 2) throw new IllegalArgumentException();
        if (word.size() == 8) throw new IllegalStateException();
        word.add(letter);
        return word.size();
    }

    public int clearWord() {
        int n = word.size();
        word = new ArrayList<>();
        return n;
    }

    public int wordLength() {
        return word.size();
    }

    public int letterAt(int position) {
        if (position < 0 || position >= word.size()) throw new IndexOutOfBoundsException();
        return word.get(position);
    }

    private long runs(int state, List<Integer> w, int i) {
        if (i == w.size()) return now.finals.contains(state) ? 1 : 0;
        long n = 0;
        for (int t : now.transitions) {
            if (t / 100 == state && t / 10 % 10 == w.get(i)) n += runs(t % 10, w, i + 1);
        }
        return n;
    }

    private boolean inOrder(List<Integer> w) {
        Set<Integer> states = new HashSet<>();
        states.add(0);
        for (int letter : w) {
            Set<Integer> next = new HashSet<>();
            for (int t : now.transitions) {
                if (states.contains(t / 100) && t / 10 % 10 == letter) next.add(t % 10);
            }
            states = next;
        }
        states.retainAll(now.finals);
        return !states.isEmpty();
    }

    private static void words(List<List<Integer>> all, List<Integer> head, int length) {
        if (head.size() == length) {
            all.add(new ArrayList<>(head));
            return;
        }
        for (int letter = 0; letter < 3; letter++) {
            head.add(letter);
            words(all, head, length);
            head.remove(head.size() - 1);
        }
    }

    private static List<List<Integer>> allWords(int length) {
        List<List<Integer>> all = new ArrayList<>();
        words(all, new ArrayList<>(), length);
        return all;
    }

    private static int countsOf(List<Integer> w) {
        int code = 0;
        for (int letter : w) code += letter == 0 ? 100 : letter == 1 ? 10 : 1;
        return code;
    }

    private List<List<Integer>> goodArrangements() {
        List<List<Integer>> good = new ArrayList<>();
        for (List<Integer> w : allWords(word.size())) {
            if (countsOf(w) == countsOf(word) && inOrder(w)) good.add(w);
        }
        return good;
    }

    private int jumps;
    private int rest;

    private boolean oneWay(List<Integer> w) {
        List<Integer> circle = new ArrayList<>(w);
        int head = 0;
        int state = 0;
        jumps = 0;
        while (!circle.isEmpty()) {
            int moved = 0;
            while (moved < circle.size() && target(state, circle.get((head + moved) % circle.size())) < 0) moved++;
            if (moved == circle.size()) break;
            if (moved > 0) jumps++;
            head = (head + moved) % circle.size();
            state = target(state, circle.get(head));
            circle.remove(head);
            if (head == circle.size()) head = 0;
        }
        rest = circle.size();
        return rest == 0 && now.finals.contains(state);
    }

    private int target(int state, int letter) {
        for (int t : now.transitions) {
            if (t / 10 == 10 * state + letter) return t % 10;
        }
        return -1;
    }

    private void needDeterministic() {
        if (!isDeterministic()) throw new UnsupportedOperationException();
    }

    public boolean accepts(int mode) {
        if (mode < 0 || mode > 2) throw new IllegalArgumentException();
        if (mode == 2) needDeterministic();
        return mode == 0 ? inOrder(word) : mode == 1 ? !goodArrangements().isEmpty() : oneWay(word);
    }

    public long runCount() {
        return runs(0, word, 0);
    }

    public long acceptedArrangements() {
        return goodArrangements().size();
    }

    public int takeArrangement(int rank) {
        if (rank < 0) throw new IllegalArgumentException();
        List<List<Integer>> good = goodArrangements();
        if (rank >= good.size()) throw new NoSuchElementException();
        word = good.get(rank);
        return word.size();
    }

    public int oneWayJumps() {
        needDeterministic();
        oneWay(word);
        return jumps;
    }

    public int oneWayRest() {
        needDeterministic();
        oneWay(word);
        return rest;
    }

    private int bestCost;
    private List<Integer> best;

    private void findBest() {
        best = null;
        bestCost = Integer.MAX_VALUE;
        orders(new ArrayList<>(), 0, 0);
        if (best == null) throw new NoSuchElementException();
    }

    private void orders(List<Integer> head, int at, int cost) {
        if (cost >= bestCost) return;
        if (head.size() == word.size()) {
            List<Integer> letters = new ArrayList<>();
            for (int p : head) letters.add(word.get(p));
            if (inOrder(letters)) {
                best = new ArrayList<>(head);
                bestCost = cost;
            }
            return;
        }
        for (int p = 0; p < word.size(); p++) {
            if (!head.contains(p)) {
                head.add(p);
                orders(head, p, cost + Math.abs(at - p));
                head.remove(head.size() - 1);
            }
        }
    }

    public int orderCost() {
        findBest();
        return bestCost;
    }

    public int orderPosition(int index) {
        if (index < 0 || index >= word.size()) throw new IndexOutOfBoundsException();
        findBest();
        return best.get(index);
    }

    // ---- counts

    /** The reached counts with numbers up to 9, by a search through states with counts. */
    private TreeSet<Integer> reached() {
        Set<Integer> met = new HashSet<>();
        ArrayDeque<Integer> open = new ArrayDeque<>();
        open.add(0);
        TreeSet<Integer> good = new TreeSet<>();
        while (!open.isEmpty()) {
            int node = open.poll();
            if (!met.add(node)) continue;
            int state = node / 1000;
            int code = node % 1000;
            if (now.finals.contains(state)) good.add(code);
            for (int t : now.transitions) {
                if (t / 100 != state) continue;
                int letter = t / 10 % 10;
                int number = letter == 0 ? code / 100 : letter == 1 ? code / 10 % 10 : code % 10;
                if (number < 9) open.add(1000 * (t % 10) + code + (letter == 0 ? 100 : letter == 1 ? 10 : 1));
            }
        }
        return good;
    }

    private static int digits(int a, int b, int c) {
        if (a < 0 || a > 9 || b < 0 || b > 9 || c < 0 || c > 9) throw new IllegalArgumentException();
        return 100 * a + 10 * b + c;
    }

    public boolean reaches(int a, int b, int c) {
        return reached().contains(digits(a, b, c));
    }

    private List<Integer> minimals() {
        TreeSet<Integer> all = reached();
        List<Integer> minimal = new ArrayList<>();
        for (int x : all) {
            boolean least = true;
            for (int y : all) {
                if (y != x && y / 100 <= x / 100 && y / 10 % 10 <= x / 10 % 10 && y % 10 <= x % 10) least = false;
            }
            if (least) minimal.add(x);
        }
        return minimal;
    }

    public int minimalCount() {
        return minimals().size();
    }

    public int minimal(int index) {
        List<Integer> all = minimals();
        if (index < 0 || index >= all.size()) throw new IndexOutOfBoundsException();
        return all.get(index);
    }

    private void walk(int start, int at, List<Integer> met, int code, TreeSet<Integer> found) {
        for (int t : now.transitions) {
            if (t / 100 != at || !useful(t % 10)) continue;
            int to = t % 10;
            int letter = t / 10 % 10;
            int longer = code + (letter == 0 ? 100 : letter == 1 ? 10 : 1);
            if (to == start) {
                found.add(longer);
            } else if (!met.contains(to)) {
                List<Integer> more = new ArrayList<>(met);
                more.add(to);
                walk(start, to, more, longer, found);
            }
        }
    }

    private List<Integer> cycles() {
        TreeSet<Integer> found = new TreeSet<>();
        for (int s = 0; s < 5; s++) {
            if (useful(s)) walk(s, s, new ArrayList<>(), 0, found);
        }
        return new ArrayList<>(found);
    }

    public int cycleCount() {
        return cycles().size();
    }

    public int cycle(int index) {
        List<Integer> all = cycles();
        if (index < 0 || index >= all.size()) throw new IndexOutOfBoundsException();
        return all.get(index);
    }

    // ---- counting sets

    private List<List<int[]>> set(int set) {
        if (set < 0 || set > 1) throw new IndexOutOfBoundsException();
        return now.sets.get(set);
    }

    private List<int[]> linear(int set, int linear) {
        if (linear < 0 || linear >= set(set).size()) throw new IndexOutOfBoundsException();
        return set(set).get(linear);
    }

    public int addLinearSet(int set, int a, int b, int c) {
        set(set);
        digits(a, b, c);
        if (set(set).size() == 4) throw new IllegalStateException();
        change();
        List<int[]> made = new ArrayList<>();
        made.add(new int[] {a, b, c});
        set(set).add(made);
        return set(set).size() - 1;
    }

    public int addPeriod(int set, int linear, int a, int b, int c) {
        linear(set, linear);
        if (digits(a, b, c) == 0) throw new IllegalArgumentException();
        if (linear(set, linear).size() == 4) throw new IllegalStateException();
        change();
        linear(set, linear).add(new int[] {a, b, c});
        return linear(set, linear).size() - 1;
    }

    public int clearSet(int set) {
        set(set);
        change();
        int n = set(set).size();
        set(set).clear();
        return n;
    }

    private static boolean fits(List<int[]> linear, int i, int a, int b, int c) {
        if (i == linear.size()) return a == 0 && b == 0 && c == 0;
        int[] p = linear.get(i);
        if (i == 0) return fits(linear, 1, a - p[0], b - p[1], c - p[2]);
        for (int copies = 0; copies <= 9; copies++) {
            int x = a - copies * p[0];
            int y = b - copies * p[1];
            int z = c - copies * p[2];
            if (x >= 0 && y >= 0 && z >= 0 && fits(linear, i + 1, x, y, z)) return true;
        }
        return false;
    }

    private boolean holds(int set, int code) {
        for (List<int[]> linear : set(set)) {
            if (fits(linear, 0, code / 100, code / 10 % 10, code % 10)) return true;
        }
        return false;
    }

    public boolean contains(int set, int a, int b, int c) {
        set(set);
        return holds(set, digits(a, b, c));
    }

    /** All codes within a bound, by their sums and then by themselves. */
    private static List<Integer> box(int bound) {
        if (bound < 0 || bound > 6) throw new IllegalArgumentException();
        List<Integer> all = new ArrayList<>();
        for (int code = 0; code < 1000; code++) {
            if (code / 100 <= bound && code / 10 % 10 <= bound && code % 10 <= bound) all.add(code);
        }
        all.sort((x, y) -> sum(x) != sum(y) ? sum(x) - sum(y) : x - y);
        return all;
    }

    private static int sum(int code) {
        return code / 100 + code / 10 % 10 + code % 10;
    }

    public int elements(int set, int bound) {
        set(set);
        int n = 0;
        for (int code : box(bound)) {
            if (holds(set, code)) n++;
        }
        return n;
    }

    public int reachedCounts(int bound) {
        List<Integer> all = box(bound);
        all.retainAll(reached());
        return all.size();
    }

    public int firstMissing(int set, int bound) {
        set(set);
        List<Integer> all = box(bound);
        all.retainAll(reached());
        for (int code : all) {
            if (!holds(set, code)) return code;
        }
        throw new NoSuchElementException();
    }

    public int firstExtra(int set, int bound) {
        set(set);
        List<Integer> all = box(bound);
        all.removeAll(reached());
        for (int code : all) {
            if (holds(set, code)) return code;
        }
        throw new NoSuchElementException();
    }

    public boolean hasCyclePeriods(int set, int linear) {
        List<int[]> l = linear(set, linear);
        for (int i = 1; i < l.size(); i++) {
            if (!cycles().contains(digits(l.get(i)[0], l.get(i)[1], l.get(i)[2]))) return false;
        }
        return true;
    }

    // ---- numbers of words

    private static void needLength(int length) {
        if (length < 0 || length > 7) throw new IllegalArgumentException();
    }

    public long acceptedWords(int mode, int length) {
        if (mode < 0 || mode > 2) throw new IllegalArgumentException();
        needLength(length);
        if (mode == 2) needDeterministic();
        Set<Integer> counts = new HashSet<>();
        long n = 0;
        for (List<Integer> w : allWords(length)) {
            if (inOrder(w)) counts.add(countsOf(w));
            if (mode == 0 && inOrder(w) || mode == 2 && oneWay(w)) n++;
        }
        if (mode != 1) return n;
        for (List<Integer> w : allWords(length)) {
            if (counts.contains(countsOf(w))) n++;
        }
        return n;
    }

    private List<Integer> openWord(int length) {
        needLength(length);
        for (int n = 0; n <= length; n++) {
            Set<Integer> counts = new HashSet<>();
            for (List<Integer> w : allWords(n)) {
                if (inOrder(w)) counts.add(countsOf(w));
            }
            for (List<Integer> w : allWords(n)) {
                if (counts.contains(countsOf(w)) && !inOrder(w)) return w;
            }
        }
        return null;
    }

    public boolean isClosed(int length) {
        return openWord(length) == null;
    }

    public int takeOpenWord(int length) {
        List<Integer> open = openWord(length);
        if (open == null) throw new NoSuchElementException();
        word = open;
        return word.size();
    }

    public double density(int mode, int length) {
        long n = acceptedWords(mode, length);
        return (double) n / (double) allWords(length).size();
    }

    public float averageMinimum() {
        int total = 0;
        for (int code : minimals()) total += sum(code);
        if (minimals().isEmpty()) throw new ArithmeticException();
        return (float) total / (float) minimals().size();
    }

    // ---- changes

    public int undo() {
        if (past.isEmpty()) throw new IllegalStateException();
        now = past.remove(past.size() - 1);
        return past.size();
    }

    public void save() {
        saved = now.copy();
    }

    public void restore() {
        if (saved == null) throw new IllegalStateException();
        change();
        now = saved.copy();
    }
}
