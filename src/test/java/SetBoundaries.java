/** Promises 30 to 34: the counting sets. */
final class SetBoundaries extends Lab {
    private static final int[] NO_NUMBER = {-1, 10, LEAST, MOST};
    private static final int[] NO_SET = {-1, 2, LEAST, MOST};

    private SetBoundaries() {
    }

    static void tell(Book book) {
        addLinearSet(book);
        addLinearSetRefused(book);
        addPeriod(book);
        addPeriodNumbers(book);
        addPeriodRefused(book);
        clearSet(book);
        contains(book);
        containsNumbers(book);
        containsRefused(book);
        elements(book);
    }

    private static void addLinearSet(Book book) {
        book.says(30, "Adds a linear set without periods to a counting set.", () -> {
            JumpingAutomata x = none();
            x.addLinearSet(1, 1, 2, 3);
            due("the base is in it", true, () -> x.contains(1, 1, 2, 3));
            due("nothing else is", 1, () -> x.elements(1, 6));
            due("the other set has none", 0, () -> x.elements(0, 6));
            due("it had no period", 1, () -> x.addPeriod(1, 0, 9, 9, 9));
            x.clearSet(1);
            x.addLinearSet(1, 0, 0, 0);
            due("nor has a later one", 1, () -> x.elements(1, 6));
        });
        book.says(30, "- `set`: the counting set, 0 or 1", () -> {
            allows(v -> none().addLinearSet(v, 0, 0, 0), v -> 0, 0, 1);
            refuses(INDEX, v -> none().addLinearSet(v, 0, 0, 0), NO_SET);
        });
        book.says(30, "- `a`: the number of letters a in the base, 0 to 9", () -> {
            allows(v -> none().addLinearSet(0, v, 0, 0), v -> 0, 0, 1, 8, 9);
            refuses(ARGUMENT, v -> none().addLinearSet(0, v, 0, 0), NO_NUMBER);
        });
        book.says(30, "- `b`: the number of letters b in the base, 0 to 9", () -> {
            allows(v -> none().addLinearSet(0, 0, v, 0), v -> 0, 0, 1, 8, 9);
            refuses(ARGUMENT, v -> none().addLinearSet(0, 0, v, 0), NO_NUMBER);
        });
        book.says(30, "- `c`: the number of letters c in the base, 0 to 9", () -> {
            allows(v -> none().addLinearSet(0, 0, 0, v), v -> 0, 0, 1, 8, 9);
            refuses(ARGUMENT, v -> none().addLinearSet(0, 0, 0, v), NO_NUMBER);
        });
        book.says(30, "Returns the number of the linear set.", () -> {
            JumpingAutomata x = filled(0, "000 000");
            for (int i = 0; i < 4; i++) {
                int number = i;
                due("number " + i, number, () -> x.addLinearSet(1, 9, 9, 9));
            }
            due("of the other set", 2, () -> x.addLinearSet(0, 0, 0, 0));
            x.clearSet(1);
            due("after clearing", 0, () -> x.addLinearSet(1, 0, 0, 0));
        });
    }

    private static void addLinearSetRefused(Book book) {
        book.says(30, "Throws `IndexOutOfBoundsException` if there is no such counting set", () -> {
            for (int wrong : NO_SET) {
                Portrait.refused(INDEX, x -> x.addLinearSet(wrong, 1, 1, 1));
            }
        });
        book.says(30, "Throws `IllegalArgumentException` if a number is out of range", () -> {
            for (int wrong : NO_NUMBER) {
                Portrait.refused(ARGUMENT, x -> x.addLinearSet(0, wrong, 0, 0));
                Portrait.refused(ARGUMENT, x -> x.addLinearSet(1, 0, wrong, 0));
                Portrait.refused(ARGUMENT, x -> x.addLinearSet(0, 0, 0, wrong));
            }
            Portrait.refused(ARGUMENT, x -> x.addLinearSet(0, 1, -10, 0));
        });
        book.says(30, "Throws `IllegalStateException` if the counting set has 4 linear sets", () -> {
            for (int set = 0; set < 2; set++) {
                int s = set;
                due("with 3", 3, () -> filled(s, "000 000 000").addLinearSet(s, 0, 0, 0));
                due("with 4", STATE, () -> filled(s, "000 000 000 000").addLinearSet(s, 0, 0, 0));
                due("the other set", 0, () -> filled(s, "000 000 000 000").addLinearSet(1 - s, 0, 0, 0));
                Portrait.refused(STATE, x -> fill(x, s, "001 010 100 111"), x -> x.addLinearSet(s, 2, 2, 2));
            }
        });
    }

    private static void addPeriod(Book book) {
        book.says(31, "Adds a period to a linear set.", () -> {
            JumpingAutomata x = filled(0, "000 000+001");
            x.addPeriod(0, 0, 2, 0, 0);
            due("the base plus copies", true, () -> x.contains(0, 8, 0, 0));
            due("only of this linear set", false, () -> x.contains(0, 2, 0, 1));
            x.addPeriod(0, 1, 1, 0, 0);
            due("now of the other one too", true, () -> x.contains(0, 2, 0, 1));
        });
        book.says(31, "- `set`: the counting set, 0 or 1", () -> {
            allows(v -> filled(v, "000").addPeriod(v, 0, 1, 0, 0), v -> 1, 0, 1);
            refuses(INDEX, v -> filled(0, "000").addPeriod(v, 0, 1, 0, 0), NO_SET);
        });
        book.says(31, "- `linear`: the number of the linear set", () -> {
            allows(v -> filled(1, "000 000 000 000").addPeriod(1, v, 1, 0, 0), v -> 1, 0, 1, 2, 3);
            refuses(INDEX, v -> filled(1, "000 000 000 000").addPeriod(1, v, 1, 0, 0), -1, 4, LEAST, MOST);
        });
        book.says(31, "Returns the number of periods of the linear set.", () -> {
            JumpingAutomata x = filled(0, "000 000+111");
            due("the first", 1, () -> x.addPeriod(0, 0, 1, 0, 0));
            due("the second, the same again", 2, () -> x.addPeriod(0, 0, 1, 0, 0));
            due("the third", 3, () -> x.addPeriod(0, 0, 0, 0, 9));
            due("of the other linear set", 2, () -> x.addPeriod(0, 1, 1, 0, 0));
        });
    }

    private static void addPeriodNumbers(Book book) {
        book.says(31, "- `a`: the number of letters a in the period, 0 to 9", () -> {
            allows(v -> filled(0, "000").addPeriod(0, 0, v, 1, 0), v -> 1, 0, 1, 8, 9);
            refuses(ARGUMENT, v -> filled(0, "000").addPeriod(0, 0, v, 1, 0), NO_NUMBER);
        });
        book.says(31, "- `b`: the number of letters b in the period, 0 to 9", () -> {
            allows(v -> filled(0, "000").addPeriod(0, 0, 0, v, 1), v -> 1, 0, 1, 8, 9);
            refuses(ARGUMENT, v -> filled(0, "000").addPeriod(0, 0, 0, v, 1), NO_NUMBER);
        });
        book.says(31, "- `c`: the number of letters c in the period, 0 to 9", () -> {
            allows(v -> filled(0, "000").addPeriod(0, 0, 1, 0, v), v -> 1, 0, 1, 8, 9);
            refuses(ARGUMENT, v -> filled(0, "000").addPeriod(0, 0, 1, 0, v), NO_NUMBER);
        });
    }

    private static void addPeriodRefused(Book book) {
        book.says(31, "Throws `IndexOutOfBoundsException` if there is no such counting set or linear set", () -> {
            due("an empty set", INDEX, () -> none().addPeriod(0, 0, 1, 0, 0));
            due("the other set", INDEX, () -> filled(1, "000").addPeriod(0, 0, 1, 0, 0));
            due("a cleared set", INDEX, () -> {
                JumpingAutomata x = filled(1, "000");
                x.clearSet(1);
                return x.addPeriod(1, 0, 1, 0, 0);
            });
            for (int wrong : NO_SET) {
                Portrait.refused(INDEX, x -> x.addPeriod(wrong, 0, 1, 1, 1));
            }
            for (int wrong : new int[] {-1, 1, 4, LEAST, MOST}) {
                Portrait.refused(INDEX, x -> x.addPeriod(0, wrong, 1, 1, 1));
                Portrait.refused(INDEX, x -> x.addPeriod(1, wrong, 1, 1, 1));
            }
        });
        book.says(31, "Throws `IllegalArgumentException` if a number is out of range, or all are 0", () -> {
            for (int wrong : NO_NUMBER) {
                Portrait.refused(ARGUMENT, x -> x.addPeriod(0, 0, wrong, 1, 1));
                Portrait.refused(ARGUMENT, x -> x.addPeriod(0, 0, 1, wrong, 1));
                Portrait.refused(ARGUMENT, x -> x.addPeriod(0, 0, 1, 1, wrong));
            }
            Portrait.refused(ARGUMENT, x -> x.addPeriod(0, 0, 0, 0, 0));
            Portrait.refused(ARGUMENT, x -> x.addPeriod(0, 0, 1, -10, 0));
            due("one a", 1, () -> filled(0, "000").addPeriod(0, 0, 1, 0, 0));
            due("one b", 1, () -> filled(0, "000").addPeriod(0, 0, 0, 1, 0));
            due("one c", 1, () -> filled(0, "000").addPeriod(0, 0, 0, 0, 1));
        });
        book.says(31, "Throws `IllegalStateException` if the linear set has 3 periods", () -> {
            due("with 2", 3, () -> filled(0, "000+001+010").addPeriod(0, 0, 1, 0, 0));
            due("with 3", STATE, () -> filled(0, "000+001+010+100").addPeriod(0, 0, 1, 1, 1));
            due("with 3 that are the same", STATE, () -> filled(0, "000+001+001+001").addPeriod(0, 0, 0, 0, 1));
            due("another linear set", 1, () -> filled(0, "000+001+010+100 000").addPeriod(0, 1, 1, 1, 1));
            Portrait.refused(STATE, x -> fill(x, 1, "000 111+200+020+002"), x -> x.addPeriod(1, 1, 1, 0, 0));
        });
    }

    private static void clearSet(Book book) {
        book.says(32, "Removes all linear sets of a counting set.", () -> {
            JumpingAutomata x = filled(0, "000+100+010+001 001 010 100");
            fill(x, 1, "111 222");
            x.clearSet(0);
            due("none is left", 0, () -> x.elements(0, 6));
            due("the other set stays", 2, () -> x.elements(1, 6));
            x.clearSet(0);
            due("of an empty set", 0, () -> x.elements(0, 6));
            due("there is room again", 0, () -> x.addLinearSet(0, 5, 5, 5));
            due("for new ones alone", 1, () -> x.elements(0, 6));
        });
        book.says(32, "- `set`: the counting set, 0 or 1", () -> {
            allows(v -> filled(v, "000 111").clearSet(v), v -> 2, 0, 1);
            refuses(INDEX, v -> filled(0, "000").clearSet(v), NO_SET);
        });
        book.says(32, "Returns the number of linear sets that it had.", () -> {
            due("none", 0, () -> none().clearSet(0));
            due("one", 1, () -> filled(1, "000").clearSet(1));
            due("four", 4, () -> filled(1, "000 000 000 000").clearSet(1));
            due("of the other set", 0, () -> filled(1, "000 000").clearSet(0));
        });
        book.says(32, "Throws `IndexOutOfBoundsException` if there is no such counting set", () -> {
            for (int wrong : NO_SET) {
                Portrait.refused(INDEX, x -> x.clearSet(wrong));
            }
        });
    }

    private static void contains(Book book) {
        book.says(33, "Returns whether a counting set contains counts.", () -> {
            JumpingAutomata x = filled(1, "100+210+013");
            due("the base", true, () -> x.contains(1, 1, 0, 0));
            due("one copy", true, () -> x.contains(1, 3, 1, 0));
            due("copies of both", true, () -> x.contains(1, 5, 4, 6));
            due("a copy without the base", false, () -> x.contains(1, 2, 1, 0));
            due("the other set", false, () -> x.contains(0, 1, 0, 0));
        });
        book.says(33, "- `set`: the counting set, 0 or 1", () -> {
            allows(v -> filled(v, "999").contains(v, 9, 9, 9), v -> true, 0, 1);
            refuses(INDEX, v -> filled(0, "000").contains(v, 0, 0, 0), NO_SET);
        });
        book.says(33, "Returns whether it contains them.", () -> {
            due("an empty set", false, () -> none().contains(0, 0, 0, 0));
            due("zero", true, () -> filled(0, "000").contains(0, 0, 0, 0));
            due("nines", true, () -> filled(0, "000+111").contains(0, 9, 9, 9));
            due("a period of nines", true, () -> filled(0, "000+999").contains(0, 9, 9, 9));
            due("a base beyond the counts", false, () -> filled(0, "119").contains(0, 1, 1, 8));
            due("no carry between the numbers", false, () -> filled(0, "009+001").contains(0, 0, 1, 0));
            Portrait.unchanged(true, x -> { }, x -> x.contains(0, 5, 2, 0));
        });
    }

    private static void containsNumbers(Book book) {
        book.says(33, "- `a`: the number of letters a, 0 to 9", () -> {
            allows(v -> filled(0, "000+100").contains(0, v, 0, 0), v -> true, 0, 1, 8, 9);
            refuses(ARGUMENT, v -> filled(0, "000+100").contains(0, v, 0, 0), NO_NUMBER);
        });
        book.says(33, "- `b`: the number of letters b, 0 to 9", () -> {
            allows(v -> filled(0, "000+010").contains(0, 0, v, 0), v -> true, 0, 1, 8, 9);
            refuses(ARGUMENT, v -> filled(0, "000+010").contains(0, 0, v, 0), NO_NUMBER);
        });
        book.says(33, "- `c`: the number of letters c, 0 to 9", () -> {
            allows(v -> filled(0, "000+001").contains(0, 0, 0, v), v -> true, 0, 1, 8, 9);
            refuses(ARGUMENT, v -> filled(0, "000+001").contains(0, 0, 0, v), NO_NUMBER);
        });
    }

    private static void containsRefused(Book book) {
        book.says(33, "Throws `IndexOutOfBoundsException` if there is no such counting set", () -> {
            for (int wrong : NO_SET) {
                Portrait.refused(INDEX, x -> x.contains(wrong, 1, 1, 1));
            }
        });
        book.says(33, "Throws `IllegalArgumentException` if a number is out of range", () -> {
            for (int wrong : NO_NUMBER) {
                Portrait.refused(ARGUMENT, x -> x.contains(0, wrong, 0, 0));
                Portrait.refused(ARGUMENT, x -> x.contains(1, 0, wrong, 0));
                Portrait.refused(ARGUMENT, x -> x.contains(0, 0, 0, wrong));
            }
            Portrait.refused(ARGUMENT, x -> x.contains(0, 2, -10, 0));
            due("an empty set", ARGUMENT, () -> none().contains(0, 0, 0, 10));
        });
    }

    private static void elements(Book book) {
        book.says(34, "Returns how many counts with numbers from 0 to a bound a counting set contains.", () -> {
            JumpingAutomata x = filled(0, "100+020 606 009");
            due("within 0", 0, () -> x.elements(0, 0));
            due("within 1", 1, () -> x.elements(0, 1));
            due("within 2", 2, () -> x.elements(0, 2));
            due("within 5", 3, () -> x.elements(0, 5));
            due("within 6", 5, () -> x.elements(0, 6));
            due("once each", 1, () -> filled(1, "111 111 111+001").elements(1, 1));
        });
        book.says(34, "- `set`: the counting set, 0 or 1", () -> {
            allows(v -> filled(v, "000").elements(v, 0), v -> 1, 0, 1);
            refuses(INDEX, v -> filled(0, "000").elements(v, 0), NO_SET);
        });
        book.says(34, "- `bound`: the bound, 0 to 6", () -> {
            allows(v -> filled(0, "000+100+010+001").elements(0, v), v -> (v + 1) * (v + 1) * (v + 1),
                0, 1, 2, 3, 4, 5, 6);
            refuses(ARGUMENT, v -> filled(0, "000").elements(0, v), -1, 7, LEAST, MOST);
        });
        book.says(34, "Returns the number of counts.", () -> {
            due("none", 0, () -> none().elements(0, 6));
            due("all", 343, () -> filled(1, "000+100+010+001").elements(1, 6));
            due("all beyond the bound", 0, () -> filled(1, "700+100 070 007 999").elements(1, 6));
            Portrait.unchanged(4, x -> { }, x -> x.elements(1, 3));
        });
        book.says(34, "Throws `IndexOutOfBoundsException` if there is no such counting set", () -> {
            for (int wrong : NO_SET) {
                Portrait.refused(INDEX, x -> x.elements(wrong, 3));
            }
        });
        book.says(34, "Throws `IllegalArgumentException` if the bound is out of range", () -> {
            for (int wrong : new int[] {-1, 7, 9, LEAST, MOST}) {
                Portrait.refused(ARGUMENT, x -> x.elements(1, wrong));
            }
        });
    }
}
