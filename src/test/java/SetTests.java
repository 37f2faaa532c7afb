/** Promises 9 to 12: sets. */
final class SetTests {
    static void run(Check check) {
        isConnected(check);
        isSteady(check);
        free(check);
        canTake(check);
        canTakeSteady(check);
    }

    private static void isConnected(Check check) {
        check.title("Promise 9: isConnected");
        AssemblyPlanner planner = Products.row(0, 0, 0, 0, 0, 0, 0, 0);
        check.due(true, () -> planner.isConnected(1));
        check.due(true, () -> planner.isConnected(128));
        check.due(true, () -> planner.isConnected(255));
        check.due(true, () -> planner.isConnected(254));
        check.due(false, () -> planner.isConnected(5));
        check.due(false, () -> planner.isConnected(255 - 16));
        check.due(true, () -> planner.isConnected(2 + 4 + 8));

        AssemblyPlanner zigzag = Products.loose(0, 0, 0, 0, 0, 0, 0, 0);
        int[] path = {7, 0, 6, 1, 5, 2, 4, 3};
        for (int at = 1; at < path.length; at++) {
            zigzag.contact(path[at], path[at - 1], true);
        }
        check.due(true, () -> zigzag.isConnected(255));
        check.due(false, () -> zigzag.isConnected(255 - 32));
        check.due(false, () -> zigzag.isConnected(3));

        wrongSets(check, planner::isConnected);
    }

    private static void isSteady(Check check) {
        check.title("Promise 10: isSteady");
        AssemblyPlanner planner = Products.tower(0, 0, 0);
        check.due(true, () -> planner.isSteady(1));
        check.due(true, () -> planner.isSteady(3));
        check.due(true, () -> planner.isSteady(7));
        check.due(false, () -> planner.isSteady(5));
        check.due(false, () -> planner.isSteady(2));
        check.due(false, () -> planner.isSteady(6));
        planner.setBase(1);
        check.due(false, () -> planner.isSteady(7));
        check.due(true, () -> planner.isSteady(6));

        AssemblyPlanner apart = Products.loose(0, 0, 0);
        apart.hinder(1, 5, 0, true);
        check.due(true, () -> apart.isSteady(3));
        apart.hinder(2, 4, 0, true);
        check.due(false, () -> apart.isSteady(5));
        apart.hinder(2, 1, 0, true);
        check.due(false, () -> apart.isSteady(5));

        AssemblyPlanner ring = Products.loose(0, 0, 0);
        ring.hinder(1, 5, 2, true);
        ring.hinder(2, 5, 1, true);
        check.due(false, () -> ring.isSteady(7));
        check.due(false, () -> ring.isSteady(6));

        AssemblyPlanner high = Products.loose(0, 0, 0, 0, 0, 0, 0, 0);
        high.setBase(7);
        for (int part = 0; part < 7; part++) {
            high.hinder(part, 5, part + 1, true);
        }
        check.due(true, () -> high.isSteady(255));
        check.due(false, () -> high.isSteady(255 - 8));

        AssemblyPlanner full = Products.row(0, 0, 0, 0, 0, 0, 0, 0);
        wrongSets(check, full::isSteady);
    }

    private static void free(Check check) {
        check.title("Promise 11: free");
        AssemblyPlanner planner = Products.loose(0, 0, 0, 0);
        check.due(63, () -> planner.free(15, 3));
        planner.hinder(0, 0, 1, true);
        planner.hinder(0, 3, 2, true);
        planner.hinder(0, 4, 2, true);
        check.due(63 - 1 - 8 - 16, () -> planner.free(15, 0));
        check.due(63 - 1, () -> planner.free(3, 0));
        check.due(63 - 8 - 16, () -> planner.free(5, 0));
        check.due(63, () -> planner.free(9, 0));
        check.due(63, () -> planner.free(1, 0));
        check.due(63 - 2, () -> planner.free(15, 1));
        check.due(63 - 4 - 32, () -> planner.free(5, 2));
        Products.lock(planner, 3, 0);
        check.due(0, () -> planner.free(9, 3));
        check.due(0, () -> planner.free(9, 0));
        check.due(63, () -> planner.free(14, 3));
        wrongSetsAndParts(check, planner::free);
    }

    private static void canTake(Check check) {
        check.title("Promise 12: canTake");
        AssemblyPlanner planner = Products.row(0, 0, 0, 0);
        check.due(true, () -> planner.canTake(15, 0));
        check.due(true, () -> planner.canTake(15, 3));
        check.due(false, () -> planner.canTake(15, 1));
        check.due(true, () -> planner.canTake(1, 0));
        check.due(true, () -> planner.canTake(8, 3));
        check.due(false, () -> planner.canTake(5, 0));
        check.due(false, () -> planner.canTake(11, 3));
        Products.lock(planner, 0, 1);
        check.due(false, () -> planner.canTake(15, 0));
        check.due(true, () -> planner.canTake(15, 3));
        planner.hinder(0, 2, 1, false);
        check.due(true, () -> planner.canTake(15, 0));
        wrongSetsAndParts(check, planner::canTake);
    }

    private static void canTakeSteady(Check check) {
        AssemblyPlanner planner = Products.tower(0, 0, 0);
        check.due(true, () -> planner.canTake(7, 0));
        check.due(true, () -> planner.canTake(6, 1));
        planner.askSteady(true);
        check.due(true, () -> planner.canTake(7, 2));
        check.due(false, () -> planner.canTake(7, 0));
        check.due(true, () -> planner.canTake(1, 0));
        check.due(false, () -> planner.canTake(2, 1));
        check.due(false, () -> planner.canTake(6, 1));
        planner.setBase(2);
        check.due(false, () -> planner.canTake(7, 0));
        check.due(true, () -> planner.canTake(4, 2));
        planner.askSteady(false);
        check.due(true, () -> planner.canTake(7, 0));
    }

    private interface Asked {
        Object ask(int set);
    }

    private interface PartOfSet {
        Object ask(int set, int part);
    }

    /** For a planner with 8 parts. */
    private static void wrongSets(Check check, Asked asked) {
        check.due(Check.ARGUMENT, () -> asked.ask(0));
        check.due(Check.ARGUMENT, () -> asked.ask(256));
        check.due(Check.ARGUMENT, () -> asked.ask(257));
        check.due(Check.ARGUMENT, () -> asked.ask(-1));
        check.due(Check.ARGUMENT, () -> asked.ask(Integer.MIN_VALUE));
        check.due(Check.ARGUMENT, () -> asked.ask(Integer.MAX_VALUE));
    }

    /** For a planner with 4 parts. */
    private static void wrongSetsAndParts(Check check, PartOfSet asked) {
        check.due(Check.INDEX, () -> asked.ask(15, -1));
        check.due(Check.INDEX, () -> asked.ask(15, 4));
        check.due(Check.INDEX, () -> asked.ask(0, 4));
        check.due(Check.INDEX, () -> asked.ask(16, 4));
        check.due(Check.INDEX, () -> asked.ask(15, 32));
        check.due(Check.ARGUMENT, () -> asked.ask(0, 0));
        check.due(Check.ARGUMENT, () -> asked.ask(16, 0));
        check.due(Check.ARGUMENT, () -> asked.ask(17, 0));
        check.due(Check.ARGUMENT, () -> asked.ask(-1, 0));
        check.due(Check.ARGUMENT, () -> asked.ask(Integer.MIN_VALUE + 1, 0));
        check.due(Check.ARGUMENT, () -> asked.ask(14, 0));
        check.due(Check.ARGUMENT, () -> asked.ask(7, 3));
    }
}
