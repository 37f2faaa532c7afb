/** Exceptions: a call that throws changes nothing. */
final class ThrowingTests {
    private static final int[] WRONG = {-1, 3, 4, 6, 8, 31, 32, Integer.MIN_VALUE, Integer.MAX_VALUE};

    static void run(Check check) {
        check.title("Exceptions: a call that throws changes nothing");
        telling(check);
        asking(check);
        cell(check);
    }

    private static void telling(Check check) {
        changesNothing(check, Check.ARGUMENT, planner -> planner.addPart(4));
        changesNothing(check, Check.ARGUMENT, planner -> planner.addPart(-1));
        changesNothing(check, Check.ARGUMENT, planner -> planner.setTool(1, 4));
        changesNothing(check, Check.ARGUMENT, planner -> planner.setTool(1, -1));
        changesNothing(check, Check.ARGUMENT, planner -> planner.contact(1, 1, true));
        changesNothing(check, Check.ARGUMENT, planner -> planner.contact(1, 1, false));
        changesNothing(check, Check.ARGUMENT, planner -> planner.hinder(1, 2, 1, true));
        changesNothing(check, Check.INDEX, planner -> planner.hinder(0, 6, 1, true));
        changesNothing(check, Check.INDEX, planner -> planner.hinder(0, -1, 1, false));
        changesNothing(check, Check.ARGUMENT, planner -> planner.setJams(0, 6));
        changesNothing(check, Check.ARGUMENT, planner -> planner.setJams(0, -1));
        for (int wrong : WRONG) {
            changesNothing(check, Check.INDEX, planner -> planner.setTool(wrong, 1));
            changesNothing(check, Check.INDEX, planner -> planner.contact(wrong, 1, true));
            changesNothing(check, Check.INDEX, planner -> planner.contact(1, wrong, true));
            changesNothing(check, Check.INDEX, planner -> planner.contact(wrong, wrong, true));
            changesNothing(check, Check.INDEX, planner -> planner.hinder(wrong, 1, 1, true));
            changesNothing(check, Check.INDEX, planner -> planner.hinder(1, 1, wrong, true));
            changesNothing(check, Check.INDEX, planner -> planner.hinder(wrong, 1, wrong, true));
            changesNothing(check, Check.INDEX, planner -> planner.setBase(wrong));
            changesNothing(check, Check.INDEX, planner -> planner.setJams(wrong, 1));
        }
    }

    private static void asking(Check check) {
        for (int set : new int[] {0, 8, 9, -1, Integer.MIN_VALUE, Integer.MAX_VALUE}) {
            changesNothing(check, Check.ARGUMENT, planner -> planner.isConnected(set));
            changesNothing(check, Check.ARGUMENT, planner -> planner.isSteady(set));
            changesNothing(check, Check.ARGUMENT, planner -> planner.free(set, 0));
            changesNothing(check, Check.ARGUMENT, planner -> planner.canTake(set, 0));
            changesNothing(check, Check.ARGUMENT, planner -> planner.splits(set));
        }
        changesNothing(check, Check.ARGUMENT, planner -> planner.free(6, 0));
        changesNothing(check, Check.ARGUMENT, planner -> planner.canTake(6, 0));
        changesNothing(check, Check.INDEX, planner -> planner.movesWith(0, 6));
        changesNothing(check, Check.INDEX, planner -> planner.boundTo(0, -1));
        changesNothing(check, Check.INDEX, planner -> planner.groups(6));
        for (int wrong : WRONG) {
            changesNothing(check, Check.INDEX, planner -> planner.free(7, wrong));
            changesNothing(check, Check.INDEX, planner -> planner.canTake(0, wrong));
            changesNothing(check, Check.INDEX, planner -> planner.movesWith(wrong, 0));
            changesNothing(check, Check.INDEX, planner -> planner.boundTo(wrong, 0));
            changesNothing(check, Check.INDEX, planner -> planner.orderAt(wrong));
            changesNothing(check, Check.INDEX, planner -> planner.isBypassed(wrong));
        }
    }

    private static void cell(Check check) {
        AssemblyPlanner full = Products.clump(0, 0, 0, 0, 0, 0, 0, 0);
        full.begin();
        full.step();
        check.due(Check.STATE, () -> full.addPart(0));
        check.due(Check.STATE, full::fewestByListing);
        check.due(1, full::built);
        check.due(7, full::clock);
        check.due(1, full::step);

        AssemblyPlanner ended = Products.row(1, 2);
        ended.begin();
        ended.step();
        ended.step();
        ended.setJams(0, 3);
        ended.setJams(1, 3);
        check.due(Check.STATE, ended::step);
        check.due(14, ended::clock);
        check.due(2, ended::mounted);
        check.due(3, ended::built);
        check.due(3, () -> ended.setJams(0, 3));
        check.due(3, () -> ended.setJams(1, 3));

        AssemblyPlanner begun = Products.row(1, 2);
        begun.begin();
        check.due(Check.STATE, begun::stepBack);
        check.due(0, begun::clock);
        check.due(0, begun::step);

        AssemblyPlanner loose = Products.loose(1, 2);
        check.due(Check.STATE, loose::begin);
        check.due(Check.STATE, loose::step);
        check.due(Check.STATE, loose::stepBack);
        check.due(1, () -> loose.contact(0, 1, true));
        check.due(Check.STATE, loose::step);
        check.due(2, loose::begin);
    }

    private static void changesNothing(Check check, String thrown, Edges.Use use) {
        Edges.refused(check, thrown, Starts::three, use);
    }
}
