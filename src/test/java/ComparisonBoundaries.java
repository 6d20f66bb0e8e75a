/** Promises 36 to 38: comparisons of the automaton with the counting sets. */
final class ComparisonBoundaries extends Lab {
    private static final int[] NO_SET = {-1, 2, LEAST, MOST};
    private static final int[] NO_BOUND = {-1, 7, LEAST, MOST};

    private ComparisonBoundaries() {
    }

    static void tell(Book book) {
        firstMissing(book);
        firstMissingRefused(book);
        firstExtra(book);
        firstExtraRefused(book);
        hasCyclePeriods(book);
        hasCyclePeriodsRefused(book);
    }

    private static JumpingAutomata both(String texts, int set, String linears) {
        JumpingAutomata x = automaton(texts);
        fill(x, set, linears);
        return x;
    }

    private static void firstMissing(Book book) {
        book.says(36, "Returns the first counts with numbers from 0 to a bound that are reached and that a counting set"
            + " does not contain.", () -> {
            due("an empty set", 0, () -> automaton(PAIRS).firstMissing(0, 6));
            due("the next", 110, () -> both(PAIRS, 1, "000").firstMissing(1, 6));
            JumpingAutomata x = both("0a1,1b2,2c0,!0", 1, "000 222 444 111+222");
            due("the last of all", 666, () -> x.firstMissing(1, 6));
            due("but not within 5", ELEMENT, () -> x.firstMissing(1, 5));
        });
        book.says(36, "Counts are compared by the sum of their numbers first, and then lexicographically.", () -> {
            due("the sum first", 100, () -> automaton("0a1,0c2,2c1,!1").firstMissing(0, 6));
            due("then the first number", 20, () -> automaton("0a1,1a2,0b3,3b2,!2").firstMissing(0, 6));
            due("then the second", 101, () -> automaton("0a1,1b2,1c2,!2").firstMissing(0, 6));
            due("c, then b, then a", 1, () -> automaton("0a1,0b1,0c1,!1").firstMissing(0, 6));
        });
        book.says(36, "- `set`: the counting set, 0 or 1", () -> {
            allows(v -> both(PAIRS, v, "000").firstMissing(v, 6), v -> 110, 0, 1);
            refuses(INDEX, v -> both(PAIRS, 0, "000").firstMissing(v, 6), NO_SET);
        });
        book.says(36, "- `bound`: the bound, 0 to 6", () -> {
            allows(v -> automaton(PAIRS).firstMissing(0, v), v -> 0, 0, 1, 5, 6);
            refuses(ARGUMENT, v -> automaton(PAIRS).firstMissing(0, v), NO_BOUND);
        });
        book.says(36, "Returns 100 times the first number plus 10 times the second one plus the third one.", () -> {
            due("zero", 0, () -> automaton("!0").firstMissing(0, 0));
            due("a", 100, () -> automaton("0a1,!1").firstMissing(0, 1));
            due("b", 10, () -> automaton("0b1,!1").firstMissing(0, 1));
            due("c", 1, () -> automaton("0c1,!1").firstMissing(0, 1));
            Portrait.unchanged(110, x -> { }, x -> x.firstMissing(1, 6));
        });
    }

    private static void firstMissingRefused(Book book) {
        book.says(36, "Throws `IndexOutOfBoundsException` if there is no such counting set", () -> {
            for (int wrong : NO_SET) {
                Portrait.refused(INDEX, x -> x.firstMissing(wrong, 6));
            }
        });
        book.says(36, "Throws `IllegalArgumentException` if the bound is out of range", () -> {
            for (int wrong : NO_BOUND) {
                Portrait.refused(ARGUMENT, x -> x.firstMissing(0, wrong));
            }
        });
        book.says(36, "Throws `NoSuchElementException` if there are no such counts", () -> {
            due("nothing is reached", ELEMENT, () -> none().firstMissing(0, 6));
            due("all are contained", ELEMENT, () -> both(PAIRS, 0, "000+110").firstMissing(0, 6));
            JumpingAutomata x = automaton("0a1,1a2,2a3,!3");
            due("beyond the bound", ELEMENT, () -> x.firstMissing(0, 2));
            due("at the bound", 300, () -> x.firstMissing(0, 3));
            Portrait.refused(ELEMENT, y -> { }, y -> y.firstMissing(0, 0));
        });
    }

    private static void firstExtra(Book book) {
        book.says(37, "Returns the first counts with numbers from 0 to a bound that a counting set contains and that are"
            + " not reached, in the same order as for firstMissing.", () -> {
            due("nothing is reached", 0, () -> filled(0, "000").firstExtra(0, 6));
            due("the first that is not reached", 1, () -> both(PAIRS, 1, "000+110 001").firstExtra(1, 6));
            due("the sum first", 100, () -> filled(0, "002 100 020").firstExtra(0, 6));
            due("then the first number", 20, () -> filled(0, "200 101 110 020").firstExtra(0, 6));
            due("then the second", 101, () -> filled(0, "200 110 101").firstExtra(0, 6));
            due("the last of all", 666, () -> filled(0, "999 766 676 666").firstExtra(0, 6));
        });
        book.says(37, "- `set`: the counting set, 0 or 1", () -> {
            allows(v -> filled(v, "001").firstExtra(v, 6), v -> 1, 0, 1);
            refuses(INDEX, v -> filled(0, "001").firstExtra(v, 6), NO_SET);
        });
        book.says(37, "- `bound`: the bound, 0 to 6", () -> {
            allows(v -> filled(0, "000").firstExtra(0, v), v -> 0, 0, 1, 5, 6);
            refuses(ARGUMENT, v -> filled(0, "000").firstExtra(0, v), NO_BOUND);
        });
        book.says(37, "Returns 100 times the first number plus 10 times the second one plus the third one.", () -> {
            due("a", 100, () -> filled(0, "100").firstExtra(0, 1));
            due("b", 10, () -> filled(0, "010").firstExtra(0, 1));
            due("c", 1, () -> filled(0, "001").firstExtra(0, 1));
            Portrait.unchanged(100, x -> { }, x -> x.firstExtra(0, 6));
        });
    }

    private static void firstExtraRefused(Book book) {
        book.says(37, "Throws `IndexOutOfBoundsException` if there is no such counting set", () -> {
            for (int wrong : NO_SET) {
                Portrait.refused(INDEX, x -> x.firstExtra(wrong, 6));
            }
        });
        book.says(37, "Throws `IllegalArgumentException` if the bound is out of range", () -> {
            for (int wrong : NO_BOUND) {
                Portrait.refused(ARGUMENT, x -> x.firstExtra(0, wrong));
            }
        });
        book.says(37, "Throws `NoSuchElementException` if there are no such counts", () -> {
            due("an empty set", ELEMENT, () -> none().firstExtra(0, 6));
            due("the other set", ELEMENT, () -> filled(1, "000").firstExtra(0, 6));
            due("all are reached", ELEMENT, () -> both(PAIRS, 0, "000+110").firstExtra(0, 6));
            due("beyond the bound", ELEMENT, () -> filled(0, "003").firstExtra(0, 2));
            due("at the bound", 3, () -> filled(0, "003").firstExtra(0, 3));
            due("beyond the greatest bound", ELEMENT, () -> filled(0, "007 070 700").firstExtra(0, 6));
            Portrait.refused(ELEMENT, y -> { }, y -> y.firstExtra(1, 2));
        });
    }

    private static void hasCyclePeriods(Book book) {
        book.says(38, "Returns whether each period of a linear set is one of the cycle counts.", () -> {
            String texts = "0a1,1b0,1c1,!0";
            due("one period", true, () -> both(texts, 0, "333+110").hasCyclePeriods(0, 0));
            due("both", true, () -> both(texts, 0, "333+110+001+110").hasCyclePeriods(0, 0));
            due("the first is none", false, () -> both(texts, 0, "000+111+001+110").hasCyclePeriods(0, 0));
            due("the second is none", false, () -> both(texts, 0, "000+001+111+110").hasCyclePeriods(0, 0));
            due("the third is none", false, () -> both(texts, 0, "000+001+110+220").hasCyclePeriods(0, 0));
            due("another linear set", true, () -> both(texts, 0, "000+222 000+001").hasCyclePeriods(0, 1));
        });
        book.says(38, "- `set`: the counting set, 0 or 1", () -> {
            allows(v -> filled(v, "000").hasCyclePeriods(v, 0), v -> true, 0, 1);
            refuses(INDEX, v -> filled(0, "000").hasCyclePeriods(v, 0), NO_SET);
        });
        book.says(38, "- `linear`: the number of the linear set", () -> {
            allows(v -> filled(1, "000+001 000 000+001 000").hasCyclePeriods(1, v), v -> v % 2 == 1, 0, 1, 2, 3);
            refuses(INDEX, v -> filled(1, "000 000 000 000").hasCyclePeriods(1, v), -1, 4, LEAST, MOST);
        });
        book.says(38, "Returns whether each one is; true if there are no periods.", () -> {
            due("no periods, no cycles", true, () -> filled(0, "999").hasCyclePeriods(0, 0));
            due("no periods, but cycles", true, () -> both(ALL_WORDS, 0, "000").hasCyclePeriods(0, 0));
            due("a period, no cycles", false, () -> filled(0, "000+001").hasCyclePeriods(0, 0));
            Portrait.unchanged(false, x -> { }, x -> x.hasCyclePeriods(0, 0));
        });
    }

    private static void hasCyclePeriodsRefused(Book book) {
        book.says(38, "Throws `IndexOutOfBoundsException` if there is no such counting set or linear set", () -> {
            due("an empty set", INDEX, () -> none().hasCyclePeriods(0, 0));
            due("the other set", INDEX, () -> filled(1, "000").hasCyclePeriods(0, 0));
            due("after the last", INDEX, () -> filled(1, "000 000").hasCyclePeriods(1, 2));
            for (int wrong : NO_SET) {
                Portrait.refused(INDEX, x -> x.hasCyclePeriods(wrong, 0));
            }
            for (int wrong : new int[] {-1, 1, 4, LEAST, MOST}) {
                Portrait.refused(INDEX, x -> x.hasCyclePeriods(0, wrong));
            }
        });
    }
}
