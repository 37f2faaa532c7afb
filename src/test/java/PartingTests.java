/** Promises 13 to 18: together and apart. */
final class PartingTests {
    static void run(Check check) {
        movesWith(check);
        boundTo(check);
        groups(check);
        splits(check);
        ways(check);
        leastDepth(check);
    }

    private static void movesWith(Check check) {
        check.title("Promise 13: movesWith");
        AssemblyPlanner planner = Products.loose(0, 0, 0, 0);
        check.due(1, () -> planner.movesWith(0, 0));
        planner.hinder(0, 2, 1, true);
        planner.hinder(1, 2, 2, true);
        check.due(7, () -> planner.movesWith(0, 2));
        check.due(6, () -> planner.movesWith(1, 2));
        check.due(4, () -> planner.movesWith(2, 2));
        check.due(7, () -> planner.movesWith(2, 3));
        check.due(1, () -> planner.movesWith(0, 3));
        check.due(1, () -> planner.movesWith(0, 4));
        check.due(8, () -> planner.movesWith(3, 2));

        AssemblyPlanner chain = Products.loose(0, 0, 0, 0, 0, 0, 0, 0);
        int[] path = {7, 0, 6, 1, 5, 2, 4, 3};
        for (int at = 1; at < path.length; at++) {
            chain.hinder(path[at - 1], 5, path[at], true);
        }
        check.due(255, () -> chain.movesWith(7, 5));
        check.due(255, () -> chain.movesWith(3, 4));
        check.due(8, () -> chain.movesWith(3, 5));
        wrongPartsAndDirections(check, planner::movesWith);
    }

    private static void boundTo(Check check) {
        check.title("Promise 14: boundTo");
        AssemblyPlanner planner = Products.loose(0, 0, 0, 0);
        check.due(2, () -> planner.boundTo(1, 3));
        planner.hinder(0, 0, 1, true);
        planner.hinder(1, 0, 2, true);
        check.due(1, () -> planner.boundTo(0, 0));
        planner.hinder(2, 0, 0, true);
        planner.hinder(3, 0, 0, true);
        check.due(7, () -> planner.boundTo(0, 0));
        check.due(7, () -> planner.boundTo(1, 0));
        check.due(7, () -> planner.boundTo(2, 1));
        check.due(8, () -> planner.boundTo(3, 0));
        check.due(8, () -> planner.boundTo(3, 1));
        check.due(15, () -> planner.movesWith(3, 0));
        check.due(1, () -> planner.boundTo(0, 2));
        wrongPartsAndDirections(check, planner::boundTo);
    }

    private static void groups(Check check) {
        check.title("Promise 15: groups");
        AssemblyPlanner none = new AssemblyPlanner();
        check.due(0, () -> none.groups(5));
        check.due(Check.INDEX, () -> none.groups(6));
        AssemblyPlanner planner = Products.loose(0, 0, 0, 0, 0);
        check.due(5, () -> planner.groups(0));
        planner.hinder(0, 0, 3, true);
        check.due(5, () -> planner.groups(0));
        planner.hinder(3, 0, 0, true);
        check.due(4, () -> planner.groups(0));
        check.due(4, () -> planner.groups(1));
        check.due(5, () -> planner.groups(2));
        planner.hinder(1, 0, 4, true);
        planner.hinder(4, 0, 1, true);
        check.due(3, () -> planner.groups(0));
        planner.hinder(4, 0, 0, true);
        check.due(3, () -> planner.groups(0));
        planner.hinder(0, 0, 4, true);
        check.due(2, () -> planner.groups(0));
        check.due(Check.INDEX, () -> planner.groups(-1));
        check.due(Check.INDEX, () -> planner.groups(6));
        check.due(Check.INDEX, () -> planner.groups(Integer.MIN_VALUE));
    }

    private static void splits(Check check) {
        check.title("Promise 16: splits");
        AssemblyPlanner row = Products.row(0, 0, 0, 0);
        check.due(0, () -> row.splits(1));
        check.due(0, () -> row.splits(8));
        check.due(0, () -> row.splits(5));
        check.due(0, () -> row.splits(9));
        check.due(3, () -> row.splits(15));
        check.due(2, () -> row.splits(14));
        check.due(1, () -> row.splits(6));
        Products.lock(row, 1, 2);
        check.due(2, () -> row.splits(15));
        check.due(0, () -> row.splits(6));
        row.hinder(1, 3, 2, false);
        check.due(3, () -> row.splits(15));
        check.due(1, () -> row.splits(6));
        check.due(Check.ARGUMENT, () -> row.splits(0));
        check.due(Check.ARGUMENT, () -> row.splits(16));
        check.due(Check.ARGUMENT, () -> row.splits(-1));
        check.due(Check.ARGUMENT, () -> row.splits(Integer.MIN_VALUE));

        AssemblyPlanner clump = Products.clump(0, 0, 0, 0, 0, 0, 0, 0);
        check.due(127, () -> clump.splits(255));
        check.due(7, () -> clump.splits(128 + 64 + 2 + 1));

        AssemblyPlanner crossed = Products.clump(0, 0, 0);
        for (int direction = 0; direction < 6; direction += 2) {
            crossed.hinder(0, direction, 1, true);
            crossed.hinder(0, direction + 1, 2, true);
        }
        check.due(2, () -> crossed.splits(7));
        check.due(1, () -> crossed.splits(3));
        check.due(1, () -> crossed.splits(6));
    }

    private static void ways(Check check) {
        check.title("Promise 17: ways");
        check.due(Check.STATE, () -> new AssemblyPlanner().ways());
        check.due(1, () -> Products.loose(0).ways());
        check.due(0, () -> Products.loose(0, 0).ways());
        check.due(1, () -> Products.row(0, 0).ways());
        check.due(2, () -> Products.row(0, 0, 0).ways());
        check.due(5, () -> Products.row(0, 0, 0, 0).ways());
        check.due(3, () -> Products.clump(0, 0, 0).ways());
        check.due(15, () -> Products.clump(0, 0, 0, 0).ways());
        check.due(429, () -> Products.row(0, 0, 0, 0, 0, 0, 0, 0).ways());
        check.due(135135, () -> Products.clump(0, 0, 0, 0, 0, 0, 0, 0).ways());

        AssemblyPlanner planner = Products.row(0, 0, 0, 0);
        check.due(5, planner::ways);
        Products.lock(planner, 1, 2);
        check.due(0, planner::ways);
        check.due(2, () -> planner.splits(15));
        planner.hinder(1, 0, 2, false);
        check.due(5, planner::ways);
        planner.contact(1, 2, false);
        check.due(0, planner::ways);
    }

    private static void leastDepth(Check check) {
        check.title("Promise 18: leastDepth");
        check.due(Check.STATE, () -> new AssemblyPlanner().leastDepth());
        check.due(0, () -> Products.loose(0).leastDepth());
        check.due(AssemblyPlanner.NONE, () -> Products.loose(0, 0).leastDepth());
        check.due(1, () -> Products.row(0, 0).leastDepth());
        check.due(2, () -> Products.row(0, 0, 0).leastDepth());
        check.due(2, () -> Products.row(0, 0, 0, 0).leastDepth());
        check.due(3, () -> Products.row(0, 0, 0, 0, 0).leastDepth());
        check.due(3, () -> Products.clump(0, 0, 0, 0, 0, 0, 0, 0).leastDepth());

        AssemblyPlanner star = Products.loose(0, 0, 0, 0, 0, 0, 0, 0);
        for (int part = 0; part < 7; part++) {
            star.contact(7, part, true);
        }
        check.due(7, star::leastDepth);

        AssemblyPlanner planner = Products.row(0, 0, 0, 0);
        planner.contact(0, 3, true);
        check.due(2, planner::leastDepth);
        Products.lock(planner, 0, 1);
        check.due(AssemblyPlanner.NONE, planner::leastDepth);
        planner.hinder(0, 2, 1, false);
        check.due(2, planner::leastDepth);
        Products.lock(planner, 0, 2);
        check.due(AssemblyPlanner.NONE, planner::leastDepth);
        planner.hinder(0, 2, 2, false);
        check.due(2, planner::leastDepth);
    }

    private interface PartAndDirection {
        Object ask(int part, int direction);
    }

    /** For a planner with 4 parts. */
    private static void wrongPartsAndDirections(Check check, PartAndDirection asked) {
        check.due(Check.INDEX, () -> asked.ask(-1, 0));
        check.due(Check.INDEX, () -> asked.ask(4, 0));
        check.due(Check.INDEX, () -> asked.ask(0, -1));
        check.due(Check.INDEX, () -> asked.ask(0, 6));
        check.due(Check.INDEX, () -> asked.ask(4, 6));
        check.due(Check.INDEX, () -> asked.ask(Integer.MAX_VALUE, Integer.MIN_VALUE));
    }
}
