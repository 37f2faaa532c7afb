/** Numbers just outside a range and far outside, and refused calls, which have to change nothing. */
final class Edges {
    interface Start {
        AssemblyPlanner make();
    }

    interface Use {
        Object ask(AssemblyPlanner planner);
    }

    interface UseOf {
        Object ask(AssemblyPlanner planner, int number);
    }

    private Edges() {
    }

    /** Outside 0 to last; 32, 64 and 256 among them, for they look like 0 where a shift or a byte wraps around. */
    static int[] outside(int last) {
        return new int[] {-1, last + 1, -2, last + 2, 31, 32, 33, 64, 255, 256, -32, -256,
            Integer.MIN_VALUE, Integer.MIN_VALUE + 1, Integer.MAX_VALUE, Integer.MAX_VALUE - 1};
    }

    /** Numbers that are no sets of so many parts; most hold parts that there are beside one that there is not. */
    static int[] noSets(int parts) {
        int all = (1 << parts) - 1;
        return new int[] {0, all + 1, all + 2, 2 * all + 1, 256, 257, 511, 1 << 30, -1, -2,
            -all - 1, Integer.MIN_VALUE, Integer.MIN_VALUE + 1, Integer.MAX_VALUE, Integer.MAX_VALUE - 1};
    }

    /** A call is refused, twice in a row, and leaves no trace. */
    static void refused(Check check, String thrown, Start start, Use use) {
        AssemblyPlanner planner = start.make();
        check.due(thrown, () -> use.ask(planner));
        check.due(thrown, () -> use.ask(planner));
        check.due("the same", () -> Portrait.compare(planner, start.make()));
    }

    /** A call is refused with each of these numbers, and leaves no trace. */
    static void refusedWith(Check check, String thrown, Start start, int[] numbers, UseOf use) {
        AssemblyPlanner planner = start.make();
        for (int number : numbers) {
            check.due(thrown, () -> use.ask(planner, number));
        }
        check.due("the same", () -> Portrait.compare(planner, start.make()));
    }

    /** A call is refused with each number that is no part: where there are none, one, three and eight. */
    static void refusedParts(Check check, UseOf use) {
        refusedWith(check, Check.INDEX, Starts::nothing, outside(-1), use);
        refusedWith(check, Check.INDEX, Starts::one, outside(0), use);
        refusedWith(check, Check.INDEX, Starts::three, outside(2), use);
        refusedWith(check, Check.INDEX, Starts::eight, outside(7), use);
    }

    /** A call is refused with each number that is no direction. */
    static void refusedDirections(Check check, UseOf use) {
        refusedWith(check, Check.INDEX, Starts::three, outside(5), use);
        refusedWith(check, Check.INDEX, Starts::eight, outside(5), use);
    }

    /** A call is refused with each number that is no set: where there are none, one, three and eight parts. */
    static void refusedSets(Check check, UseOf use) {
        refusedWith(check, Check.ARGUMENT, Starts::nothing, noSets(0), use);
        refusedSetsOfParts(check, use);
    }

    /** The same where there are parts, so that a part that the call names can be one. */
    static void refusedSetsOfParts(Check check, UseOf use) {
        refusedWith(check, Check.ARGUMENT, Starts::one, noSets(1), use);
        refusedWith(check, Check.ARGUMENT, Starts::three, noSets(3), use);
        refusedWith(check, Check.ARGUMENT, Starts::eight, noSets(8), use);
    }
}
