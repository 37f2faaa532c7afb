/** Promises 23 to 30: the cell. */
final class CellTests {
    private static final int NONE = AssemblyPlanner.NONE;

    static void run(Check check) {
        setJams(check);
        begin(check);
        beginAgain(check);
        step(check);
        stepWithJams(check);
        stepFromAbove(check);
        stepBack(check);
        built(check);
        clock(check);
        mounted(check);
        isBypassed(check);
        tellingStopsTheCell(check);
        askingDoesNotStopTheCell(check);
    }

    private static void setJams(Check check) {
        check.title("Promise 23: setJams");
        AssemblyPlanner planner = Products.row(0, 0);
        check.due(0, () -> planner.setJams(0, 5));
        check.due(5, () -> planner.setJams(0, 0));
        check.due(0, () -> planner.setJams(0, 1));
        check.due(0, () -> planner.setJams(1, 3));
        check.due(2, planner::begin);
        check.due(1, () -> planner.setJams(0, 1));
        check.due(NONE, planner::step);
        check.due(0, () -> planner.setJams(0, 1));
        check.due(NONE, planner::step);
        check.due(0, () -> planner.setJams(0, 4));
        check.due(0, planner::step);
        check.due(4, () -> planner.setJams(0, 2));
        check.due(2, planner::begin);
        check.due(3, () -> planner.setJams(1, 3));
        planner.setTool(0, 1);
        check.due(2, () -> planner.setJams(0, 2));
        check.due(Check.INDEX, () -> planner.setJams(-1, 0));
        check.due(Check.INDEX, () -> planner.setJams(2, 0));
        check.due(Check.INDEX, () -> planner.setJams(2, 6));
        check.due(Check.INDEX, () -> planner.setJams(-1, -1));
        check.due(Check.ARGUMENT, () -> planner.setJams(1, 6));
        check.due(Check.ARGUMENT, () -> planner.setJams(1, -1));
        check.due(Check.ARGUMENT, () -> planner.setJams(1, Integer.MAX_VALUE));
        check.due(3, () -> planner.setJams(1, 0));
    }

    private static void begin(Check check) {
        check.title("Promise 24: begin");
        check.due(Check.STATE, () -> new AssemblyPlanner().begin());
        AssemblyPlanner loose = Products.loose(0, 0);
        check.due(Check.STATE, loose::begin);
        check.due(Check.STATE, loose::step);
        check.due(1, () -> Products.loose(3).begin());
        check.due(8, () -> Products.clump(0, 1, 2, 3, 0, 1, 2, 3).begin());

        AssemblyPlanner planner = Products.row(1, 2, 1, 2);
        check.due(4, planner::begin);
        check.due(0, planner::built);
        check.due(0, planner::clock);
        check.due(NONE, planner::mounted);
        for (int part : new int[] {1, 0, 2, 3}) {
            check.due(part, planner::step);
        }
    }

    private static void beginAgain(Check check) {
        AssemblyPlanner planner = Products.row(1, 2);
        planner.setJams(0, 4);
        planner.begin();
        check.due(NONE, planner::step);
        check.due(NONE, planner::step);
        check.due(true, () -> planner.isBypassed(0));
        check.due(0, planner::step);
        check.due(1, planner::step);
        check.due(2, planner::begin);
        check.due(false, () -> planner.isBypassed(0));
        check.due(0, planner::built);
        check.due(0, planner::clock);
        check.due(NONE, planner::mounted);
        check.due(Check.STATE, planner::stepBack);
        check.due(NONE, planner::step);
        check.due(false, () -> planner.isBypassed(0));
        check.due(2, planner::begin);
        check.due(NONE, planner::step);
        // The jam ahead of begin() does not count towards the bypass.
        check.due(false, () -> planner.isBypassed(0));
        check.due(0, planner::step);
        check.due(0, () -> planner.setJams(0, 0));
    }

    private static void step(Check check) {
        check.title("Promise 25: step");
        AssemblyPlanner planner = Products.row(1, 1, 3);
        check.due(Check.STATE, planner::step);
        planner.begin();
        check.due(0, planner::step);
        check.due(5 + 1 + 1, planner::clock);
        check.due(1, planner::step);
        check.due(7 + 1 + 1, planner::clock);
        check.due(2, planner::step);
        check.due(9 + 5 + 1 + 1, planner::clock);
        check.due(Check.STATE, planner::step);
        check.due(16, planner::clock);
        check.due(7, planner::built);
        check.due(3, planner::mounted);
        check.due(Check.STATE, planner::step);
    }

    private static void stepWithJams(Check check) {
        AssemblyPlanner planner = Products.row(1, 2);
        planner.setJams(0, 1);
        planner.setJams(1, 5);
        planner.begin();
        check.due(NONE, planner::step);
        check.due(5 + 3, planner::clock);
        check.due(1, planner::mounted);
        check.due(0, planner::built);
        check.due(0, planner::step);
        check.due(8 + 1 + 1, planner::clock);
        check.due(NONE, planner::step);
        check.due(10 + 5 + 3, planner::clock);
        check.due(2, planner::mounted);
        check.due(NONE, planner::step);
        check.due(18 + 3, planner::clock);
        check.due(1, planner::step);
        check.due(21 + 4 + 1, planner::clock);
        check.due(3, () -> planner.setJams(1, 5));
        check.due(1, planner::stepBack);
        check.due(1, planner::step);
        check.due(26 + 2 + 4 + 1, planner::clock);
    }

    private static void stepFromAbove(Check check) {
        AssemblyPlanner planner = Products.row(0, 0, 0);
        planner.hinder(1, AssemblyPlanner.UP, 0, true);
        planner.hinder(2, AssemblyPlanner.DOWN, 1, true);
        planner.begin();
        check.due(0, planner::step);
        check.due(7, planner::clock);
        check.due(1, planner::step);
        check.due(7 + 1 + 2, planner::clock);
        check.due(2, planner::step);
        check.due(10 + 1 + 1, planner::clock);

        // Part 0 will be hindered UP by part 1, which is not in yet.
        AssemblyPlanner later = Products.row(0, 0);
        later.hinder(0, AssemblyPlanner.UP, 1, true);
        later.setJams(1, 2);
        later.begin();
        check.due(0, later::step);
        check.due(5 + 1 + 1, later::clock);
        later.stepBack();
        check.due(9, later::clock);
        later.step();
        check.due(11, later::clock);

        AssemblyPlanner bypassed = Products.row(0, 0);
        bypassed.hinder(1, AssemblyPlanner.UP, 0, true);
        bypassed.setJams(1, 2);
        bypassed.begin();
        bypassed.step();
        bypassed.step();
        bypassed.step();
        check.due(7 + 3 + 3, bypassed::clock);
        check.due(1, bypassed::step);
        check.due(13 + 4 + 2, bypassed::clock);
    }

    private static void stepBack(Check check) {
        check.title("Promise 26: stepBack");
        AssemblyPlanner planner = Products.row(1, 2, 1, 2);
        check.due(Check.STATE, planner::stepBack);
        planner.begin();
        check.due(Check.STATE, planner::stepBack);
        planner.step();
        planner.step();
        planner.step();
        planner.step();
        int before = planner.clock();
        check.due(3, planner::stepBack);
        check.due(before + 2, planner::clock);
        check.due(2, planner::mounted);
        check.due(2, planner::stepBack);
        check.due(0, planner::stepBack);
        check.due(1, planner::stepBack);
        check.due(before + 8, planner::clock);
        check.due(0, planner::built);
        check.due(2, planner::mounted);
        check.due(Check.STATE, planner::stepBack);
        check.due(before + 8, planner::clock);
        check.due(1, planner::step);
        check.due(before + 8 + 1 + 1, planner::clock);
        check.due(0, planner::step);
        check.due(before + 10 + 5 + 1 + 1, planner::clock);

        AssemblyPlanner jammed = Products.row(0, 0);
        jammed.begin();
        jammed.step();
        jammed.setJams(1, 2);
        jammed.step();
        check.due(0, jammed::stepBack);
        jammed.setJams(0, 1);
        check.due(NONE, jammed::step);
        check.due(0, jammed::step);
        jammed.step();
        check.due(true, () -> jammed.isBypassed(1));
        check.due(0, jammed::stepBack);
        check.due(true, () -> jammed.isBypassed(1));
        jammed.setJams(0, 1);
        check.due(NONE, jammed::step);
        check.due(true, () -> jammed.isBypassed(0));
    }

    private static void built(Check check) {
        check.title("Promise 27: built");
        AssemblyPlanner planner = Products.row(1, 2, 1, 2);
        check.due(0, planner::built);
        planner.setJams(0, 1);
        planner.begin();
        check.due(0, planner::built);
        planner.step();
        check.due(2, planner::built);
        planner.step();
        check.due(2, planner::built);
        planner.step();
        check.due(3, planner::built);
        planner.step();
        check.due(7, planner::built);
        planner.step();
        check.due(15, planner::built);
        planner.stepBack();
        check.due(7, planner::built);
        planner.askSteady(false);
        check.due(0, planner::built);
    }

    private static void clock(Check check) {
        check.title("Promise 28: clock");
        AssemblyPlanner planner = Products.row(1, 2);
        check.due(0, planner::clock);
        planner.begin();
        check.due(0, planner::clock);
        planner.step();
        check.due(7, planner::clock);
        planner.setJams(1, 1);
        check.due(7, planner::clock);
        planner.step();
        check.due(15, planner::clock);
        planner.step();
        check.due(17, planner::clock);
        planner.stepBack();
        check.due(19, planner::clock);
        planner.begin();
        check.due(0, planner::clock);
        planner.step();
        planner.setBase(0);
        check.due(0, planner::clock);
    }

    private static void mounted(Check check) {
        check.title("Promise 29: mounted");
        AssemblyPlanner planner = Products.row(0, 3);
        check.due(NONE, planner::mounted);
        planner.begin();
        check.due(NONE, planner::mounted);
        planner.step();
        check.due(0, planner::mounted);
        planner.setJams(1, 1);
        planner.step();
        check.due(3, planner::mounted);
        planner.step();
        planner.stepBack();
        planner.stepBack();
        check.due(3, planner::mounted);
        planner.step();
        check.due(0, planner::mounted);
        planner.contact(0, 1, true);
        check.due(NONE, planner::mounted);
    }

    private static void isBypassed(Check check) {
        check.title("Promise 30: isBypassed");
        AssemblyPlanner planner = Products.row(0, 0);
        check.due(false, () -> planner.isBypassed(0));
        planner.setJams(0, 2);
        planner.setJams(1, 2);
        planner.begin();
        check.due(false, () -> planner.isBypassed(0));
        planner.step();
        check.due(false, () -> planner.isBypassed(0));
        planner.step();
        check.due(true, () -> planner.isBypassed(0));
        check.due(false, () -> planner.isBypassed(1));
        planner.setJams(0, 0);
        check.due(true, () -> planner.isBypassed(0));
        planner.step();
        planner.step();
        check.due(false, () -> planner.isBypassed(1));
        planner.step();
        check.due(true, () -> planner.isBypassed(1));
        check.due(Check.INDEX, () -> planner.isBypassed(2));
        check.due(Check.INDEX, () -> planner.isBypassed(-1));
        check.due(Check.INDEX, () -> planner.isBypassed(Integer.MAX_VALUE));
        planner.hinder(0, 0, 1, false);
        check.due(false, () -> planner.isBypassed(0));
        check.due(false, () -> planner.isBypassed(1));
    }

    private interface Told {
        void tell(AssemblyPlanner planner);
    }

    private static void tellingStopsTheCell(Check check) {
        check.title("The cell: telling makes it not begun");
        stops(check, planner -> planner.addPart(0));
        stops(check, planner -> planner.setTool(0, 2));
        stops(check, planner -> planner.setTool(0, 1));
        stops(check, planner -> planner.contact(0, 2, true));
        stops(check, planner -> planner.contact(0, 1, true));
        stops(check, planner -> planner.contact(0, 2, false));
        stops(check, planner -> planner.hinder(0, 0, 1, true));
        stops(check, planner -> planner.hinder(0, 0, 1, false));
        stops(check, planner -> planner.setBase(1));
        stops(check, planner -> planner.setBase(0));
        stops(check, planner -> planner.askSteady(true));
        stops(check, planner -> planner.askSteady(false));
    }

    private static void stops(Check check, Told told) {
        AssemblyPlanner planner = Products.row(1, 2, 2);
        planner.setJams(0, 2);
        planner.begin();
        planner.step();
        planner.step();
        planner.step();
        check.due(1, planner::built);
        check.due(true, () -> planner.isBypassed(0));
        told.tell(planner);
        check.due(0, planner::built);
        check.due(0, planner::clock);
        check.due(NONE, planner::mounted);
        check.due(false, () -> planner.isBypassed(0));
        check.due(Check.STATE, planner::step);
        check.due(Check.STATE, planner::stepBack);
    }

    private static void askingDoesNotStopTheCell(Check check) {
        check.title("The cell: asking leaves it begun");
        AssemblyPlanner planner = Products.row(1, 2, 2);
        planner.begin();
        planner.step();
        planner.parts();
        planner.isConnected(7);
        planner.isSteady(7);
        planner.free(7, 0);
        planner.canTake(7, 0);
        planner.movesWith(0, 0);
        planner.boundTo(0, 0);
        planner.groups(0);
        planner.splits(7);
        planner.ways();
        planner.leastDepth();
        planner.orders();
        planner.fewestChanges();
        planner.fewestByListing();
        planner.orderAt(0);
        planner.setJams(0, 1);
        planner.isBypassed(0);
        check.due(1, planner::built);
        check.due(7, planner::clock);
        check.due(1, planner::mounted);
        check.due(1, planner::step);
    }
}
