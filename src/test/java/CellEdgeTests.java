/** The boundary cases of promises 23 to 30, a function for each sentence. */
final class CellEdgeTests {
    private static final int NONE = AssemblyPlanner.NONE;

    static void run(Check check) {
        setJamsPart(check);
        setJamsJams(check);
        setJamsPartAheadOfJams(check);
        setJamsBefore(check);
        setJamsFromNowOn(check);
        beginWithoutParts(check);
        beginWithoutOrder(check);
        beginHowManyParts(check);
        beginAgain(check);
        stepNotBegun(check);
        stepAllIn(check);
        stepMounts(check);
        stepWithoutJams(check);
        stepWithJams(check);
        stepSecondJam(check);
        stepBypassed(check);
        stepFreeUp(check);
        stepTurnsToTheFirstNotIn(check);
        stepBackNotBegun(check);
        stepBackNoneIn(check);
        stepBackTakesTwo(check);
        builtNotBegun(check);
        builtFromNoneToAll(check);
        clockNotBegun(check);
        mountedNoneOrNotBegun(check);
        isBypassedPart(check);
        isBypassedNotBegun(check);
        tellingWhatIsSoAlready(check);
        refusedTellingLeavesItBegun(check);
    }

    private static void setJamsPart(Check check) {
        check.title("Promise 23, throws if there is no such part");
        AssemblyPlanner planner = Products.loose(0, 0, 0, 0, 0, 0, 0, 0);
        check.due(0, () -> planner.setJams(0, 1));
        check.due(0, () -> planner.setJams(7, 2));
        check.due(1, () -> planner.setJams(0, 0));
        check.due(2, () -> planner.setJams(7, 0));
        Edges.refusedParts(check, (with, part) -> with.setJams(part, 0));
        Edges.refusedParts(check, (with, part) -> with.setJams(part, 5));
    }

    private static void setJamsJams(Check check) {
        check.title("Promise 23, jams: 0 to 5");
        AssemblyPlanner planner = Products.loose(0, 0);
        int before = 0;
        for (int jams : new int[] {0, 5, 1, 4, 2, 3, 0}) {
            int last = before;
            check.due(last, () -> planner.setJams(1, jams));
            before = jams;
        }
        int[] wrong = Edges.outside(5);
        Edges.refusedWith(check, Check.ARGUMENT, Starts::one, wrong, (with, jams) -> with.setJams(0, jams));
        Edges.refusedWith(check, Check.ARGUMENT, Starts::three, wrong, (with, jams) -> with.setJams(2, jams));
        Edges.refusedWith(check, Check.ARGUMENT, Starts::eight, wrong, (with, jams) -> with.setJams(7, jams));
        Edges.refusedWith(check, Check.ARGUMENT, Starts::apart, wrong, (with, jams) -> with.setJams(1, jams));
    }

    private static void setJamsPartAheadOfJams(Check check) {
        check.title("Promise 23, the part decides ahead of the jams");
        Edges.refusedParts(check, (planner, part) -> planner.setJams(part, 6));
        Edges.refusedParts(check, (planner, part) -> planner.setJams(part, -1));
        Edges.refusedParts(check, (planner, part) -> planner.setJams(part, Integer.MIN_VALUE));
        Edges.refusedParts(check, (planner, part) -> planner.setJams(part, Integer.MAX_VALUE));
    }

    private static void setJamsBefore(Check check) {
        check.title("Promise 23, returns how many were to come before, also if it is so already");
        AssemblyPlanner planner = Products.row(0, 0);
        check.due(0, () -> planner.setJams(0, 0));
        check.due(0, () -> planner.setJams(0, 5));
        check.due(5, () -> planner.setJams(0, 5));
        check.due(0, () -> planner.setJams(1, 0));
        planner.begin();
        check.due(NONE, planner::step);
        check.due(4, () -> planner.setJams(0, 1));
        check.due(NONE, planner::step);
        check.due(0, () -> planner.setJams(0, 0));
        check.title("Promise 23, telling something of the product leaves the jams to come");
        planner.setJams(0, 2);
        planner.setJams(1, 3);
        planner.addPart(0);
        planner.setTool(0, 1);
        planner.contact(0, 1, false);
        planner.hinder(0, 0, 1, true);
        planner.setBase(1);
        planner.askSteady(true);
        check.due(2, () -> planner.setJams(0, 0));
        check.due(3, () -> planner.setJams(1, 0));
        check.due(0, () -> planner.setJams(2, 0));
    }

    private static void setJamsFromNowOn(Check check) {
        check.title("Promise 23, the next feeds jam, from now on");
        AssemblyPlanner planner = Products.row(0, 0);
        planner.begin();
        check.due(0, planner::step);
        // Part 0 is in: it jams when it is fed again, and not before.
        planner.setJams(0, 1);
        check.due(1, planner::built);
        check.due(1, planner::step);
        check.due(1, planner::stepBack);
        check.due(0, planner::stepBack);
        check.due(NONE, planner::step);
        check.due(0, planner::step);
        planner.setJams(1, 5);
        planner.setJams(1, 0);
        check.due(1, planner::step);
    }

    private static void beginWithoutParts(Check check) {
        check.title("Promise 24, throws if there are no parts");
        Edges.refused(check, Check.STATE, Starts::nothing, AssemblyPlanner::begin);
        Edges.refused(check, Check.STATE, Starts::nothingSteady, AssemblyPlanner::begin);
    }

    private static void beginWithoutOrder(Check check) {
        check.title("Promise 24, throws if no order is possible");
        Edges.refused(check, Check.STATE, Starts::apart, AssemblyPlanner::begin);
        Edges.refused(check, Check.STATE, () -> Products.loose(0, 0), AssemblyPlanner::begin);
        Edges.refused(check, Check.STATE, () -> Products.loose(0, 0, 0, 0, 0, 0, 0, 0), AssemblyPlanner::begin);
        Edges.refused(check, Check.STATE, CellEdgeTests::spoiled, AssemblyPlanner::begin);
        AssemblyPlanner planner = spoiled();
        check.due(Check.STATE, planner::begin);
        check.due(Check.STATE, planner::step);
        planner.hinder(0, 3, 1, false);
        check.due(Check.STATE, planner::step);
        check.due(2, planner::begin);
        check.due(0, planner::step);
    }

    /** It was begun, and then the two parts were locked. */
    private static AssemblyPlanner spoiled() {
        AssemblyPlanner planner = Products.row(1, 2);
        planner.begin();
        planner.step();
        Products.lock(planner, 0, 1);
        return planner;
    }

    private static void beginHowManyParts(Check check) {
        check.title("Promise 24, returns how many parts the order has, from 1 to 8");
        for (int parts = 1; parts <= 8; parts++) {
            AssemblyPlanner planner = Products.row(new int[parts]);
            int due = parts;
            check.due(due, planner::begin);
            for (int part = 0; part < parts; part++) {
                int at = part;
                check.due(at, planner::step);
            }
            check.due(Check.STATE, planner::step);
            check.due(due, planner::begin);
        }
    }

    private static void beginAgain(Check check) {
        check.title("Promise 24, no part is put in, no tool is mounted, the clock is 0, no feeder is bypassed");
        AssemblyPlanner planner = Products.row(1, 2, 2);
        planner.setJams(0, 2);
        planner.setJams(1, 4);
        for (int round = 0; round < 2; round++) {
            check.due(3, planner::begin);
            check.due(0, planner::built);
            check.due(0, planner::clock);
            check.due(NONE, planner::mounted);
            for (int part = 0; part < 3; part++) {
                int at = part;
                check.due(false, () -> planner.isBypassed(at));
            }
            check.due(Check.STATE, planner::stepBack);
            planner.setJams(0, 2);
            check.due(NONE, planner::step);
            check.due(NONE, planner::step);
            check.due(0, planner::step);
            check.due(5 + 3 + 3 + 4 + 1, planner::clock);
            check.due(NONE, planner::step);
        }
        check.title("Promise 24, jams to come stay");
        check.due(3, planner::begin);
        check.due(0, () -> planner.setJams(0, 0));
        check.due(2, () -> planner.setJams(1, 2));
        check.due(3, planner::begin);
        check.due(2, () -> planner.setJams(1, 1));
        // All are in, and it begins again.
        planner.setJams(1, 0);
        check.due(0, planner::step);
        check.due(1, planner::step);
        check.due(2, planner::step);
        check.due(3, planner::begin);
        check.due(0, planner::step);
        check.due(7, planner::clock);
    }

    private static void stepNotBegun(Check check) {
        check.title("Promise 25, throws if the cell is not begun");
        Edges.refused(check, Check.STATE, Starts::nothing, AssemblyPlanner::step);
        Edges.refused(check, Check.STATE, Starts::apart, AssemblyPlanner::step);
        Edges.refused(check, Check.STATE, () -> Products.row(1, 2), AssemblyPlanner::step);
        Edges.refused(check, Check.STATE, CellEdgeTests::stopped, AssemblyPlanner::step);
        AssemblyPlanner planner = Products.row(1, 2);
        check.due(1, planner::fewestChanges);
        check.due(0, () -> planner.orderAt(0));
        check.due(Check.STATE, planner::step);
        check.due(2, planner::begin);
        check.due(0, planner::step);
    }

    /** It was begun, and one part was in; then something was told that was so already. */
    private static AssemblyPlanner stopped() {
        AssemblyPlanner planner = Products.row(1, 2);
        planner.setJams(0, 3);
        planner.begin();
        planner.step();
        planner.step();
        planner.step();
        planner.askSteady(false);
        return planner;
    }

    private static void stepAllIn(Check check) {
        check.title("Promise 25, throws if all parts are in");
        Edges.refused(check, Check.STATE, Starts::one, AssemblyPlanner::step);
        Edges.refused(check, Check.STATE, Starts::threeIn, AssemblyPlanner::step);
        AssemblyPlanner eight = Products.clump(0, 0, 0, 0, 0, 0, 0, 0);
        eight.begin();
        for (int part = 0; part < 8; part++) {
            int at = part;
            check.due(at, eight::step);
        }
        check.due(255, eight::built);
        check.due(Check.STATE, eight::step);
        check.due(255, eight::built);
        check.due(7, eight::stepBack);
        check.due(7, eight::step);
        check.due(Check.STATE, eight::step);
    }

    private static void stepMounts(Check check) {
        check.title("Promise 25, if another tool is mounted, or none, it is changed, which takes 5");
        for (int tool = 0; tool <= 3; tool++) {
            AssemblyPlanner planner = Products.tower(tool, tool, 3 - tool, tool);
            planner.askSteady(true);
            planner.begin();
            int first = tool;
            int other = 3 - tool;
            stepIs(check, planner, 0, 5 + 1 + 1);
            check.due(first, planner::mounted);
            stepIs(check, planner, 1, 1 + 1);
            check.due(first, planner::mounted);
            stepIs(check, planner, 2, 5 + 1 + 1);
            check.due(other, planner::mounted);
            stepIs(check, planner, 3, 5 + 1 + 1);
            check.due(first, planner::mounted);
        }
        check.title("Promise 25, the tool is changed ahead of a jam, once");
        AssemblyPlanner jammed = Products.row(1, 2);
        jammed.setJams(0, 1);
        jammed.begin();
        stepIs(check, jammed, NONE, 5 + 3);
        check.due(1, jammed::mounted);
        stepIs(check, jammed, 0, 1 + 1);
    }

    private static void stepWithoutJams(Check check) {
        check.title("Promise 25, no jams to come");
        AssemblyPlanner planner = Products.row(0, 0);
        planner.setJams(0, 0);
        planner.setJams(1, 5);
        planner.begin();
        stepIs(check, planner, 0, 5 + 1 + 1);
        check.due(0, () -> planner.setJams(0, 0));
        check.due(5, () -> planner.setJams(1, 0));
        stepIs(check, planner, 1, 1 + 1);
        check.due(0, () -> planner.setJams(1, 0));
    }

    private static void stepWithJams(Check check) {
        check.title("Promise 25, NONE if its feeder jams: one fewer to come, clearing takes 3, the step is over");
        AssemblyPlanner planner = Products.row(0, 0);
        planner.setJams(0, 1);
        planner.begin();
        stepIs(check, planner, NONE, 5 + 3);
        check.due(0, planner::built);
        check.due(0, () -> planner.setJams(0, 0));
        check.due(false, () -> planner.isBypassed(0));
        stepIs(check, planner, 0, 1 + 1);
        check.due(1, planner::built);
        planner.setJams(1, 5);
        stepIs(check, planner, NONE, 3);
        check.due(4, () -> planner.setJams(1, 5));
        check.due(1, planner::built);
    }

    private static void stepSecondJam(Check check) {
        check.title("Promise 25, with the second jam of a feeder since the cell began, it is bypassed");
        AssemblyPlanner planner = Products.row(0, 0);
        planner.setJams(0, 1);
        planner.begin();
        check.due(NONE, planner::step);
        check.due(false, () -> planner.isBypassed(0));
        // Jams ahead of begin() do not count.
        planner.begin();
        planner.setJams(0, 1);
        check.due(NONE, planner::step);
        check.due(false, () -> planner.isBypassed(0));
        check.due(0, planner::step);
        // The first jam of another feeder does not count for this one.
        planner.setJams(1, 1);
        check.due(NONE, planner::step);
        check.due(false, () -> planner.isBypassed(0));
        check.due(false, () -> planner.isBypassed(1));
        check.due(1, planner::step);
        planner.stepBack();
        planner.stepBack();
        // The second one counts, however long the first one is ago.
        planner.setJams(0, 1);
        check.due(NONE, planner::step);
        check.due(true, () -> planner.isBypassed(0));
        check.due(false, () -> planner.isBypassed(1));
        stepIs(check, planner, 0, 4 + 1);
    }

    private static void stepBypassed(Check check) {
        check.title("Promise 25, a bypassed feeder does not jam: fed in 4, the jams to come stay");
        AssemblyPlanner planner = Products.row(0, 0);
        planner.setJams(0, 5);
        planner.begin();
        stepIs(check, planner, NONE, 5 + 3);
        stepIs(check, planner, NONE, 3);
        stepIs(check, planner, 0, 4 + 1);
        check.due(3, () -> planner.setJams(0, 5));
        check.due(0, planner::stepBack);
        stepIs(check, planner, 0, 4 + 1);
        check.due(5, () -> planner.setJams(0, 0));
        check.due(0, planner::stepBack);
        // It stays bypassed without any jam to come.
        stepIs(check, planner, 0, 4 + 1);
        check.due(true, () -> planner.isBypassed(0));
        stepIs(check, planner, 1, 1 + 1);
        check.due(2, planner::begin);
        stepIs(check, planner, 0, 5 + 1 + 1);
    }

    private static void stepFreeUp(Check check) {
        check.title("Promise 25, put in in 2, or in 1 if it is free UP in the set of the parts that are in");
        for (int direction = 0; direction <= 5; direction++) {
            AssemblyPlanner planner = Products.row(0, 0, 0);
            planner.hinder(1, direction, 0, true);
            planner.hinder(1, direction, 2, true);
            planner.begin();
            int last = direction == 4 ? 2 : 1;
            // Part 0 is alone, whatever comes later; part 2 is hindered the other way.
            stepIs(check, planner, 0, 5 + 1 + 1);
            stepIs(check, planner, 1, 1 + last);
            stepIs(check, planner, 2, 1 + (direction == 5 ? 2 : 1));
        }
        AssemblyPlanner last = Products.clump(0, 0, 0, 0, 0, 0, 0, 0);
        last.hinder(7, 4, 0, true);
        last.hinder(3, 4, 7, true);
        last.begin();
        for (int part = 0; part < 7; part++) {
            stepIs(check, last, part, (part == 0 ? 5 : 0) + 1 + 1);
        }
        stepIs(check, last, 7, 1 + 2);
        last.stepBack();
        last.setJams(7, 2);
        stepIs(check, last, NONE, 3);
        stepIs(check, last, NONE, 3);
        stepIs(check, last, 7, 4 + 2);
    }

    private static void stepTurnsToTheFirstNotIn(Check check) {
        check.title("Promise 25, the next part of the order is the first one that is not put in");
        AssemblyPlanner planner = Products.row(1, 2, 1, 2);
        planner.begin();
        check.due(1, planner::step);
        check.due(0, planner::step);
        check.due(0, planner::stepBack);
        check.due(0, planner::step);
        check.due(2, planner::step);
        planner.setJams(3, 1);
        check.due(NONE, planner::step);
        check.due(2, planner::stepBack);
        check.due(0, planner::stepBack);
        check.due(0, planner::step);
        check.due(2, planner::step);
        check.due(3, planner::step);
    }

    private static void stepBackNotBegun(Check check) {
        check.title("Promise 26, throws if the cell is not begun");
        Edges.refused(check, Check.STATE, Starts::nothing, AssemblyPlanner::stepBack);
        Edges.refused(check, Check.STATE, Starts::apart, AssemblyPlanner::stepBack);
        Edges.refused(check, Check.STATE, () -> Products.row(1, 2), AssemblyPlanner::stepBack);
        Edges.refused(check, Check.STATE, CellEdgeTests::stopped, AssemblyPlanner::stepBack);
    }

    private static void stepBackNoneIn(Check check) {
        check.title("Promise 26, throws if no part is in");
        Edges.refused(check, Check.STATE, Starts::threeBegun, AssemblyPlanner::stepBack);
        AssemblyPlanner jammed = Starts.threeBegun();
        check.due(NONE, jammed::step);
        check.due(Check.STATE, jammed::stepBack);
        check.due(5 + 3, jammed::clock);
        check.due(1, jammed::step);
        check.due(1, jammed::stepBack);
        check.due(Check.STATE, jammed::stepBack);
        check.due(5 + 3 + 1 + 1 + 2, jammed::clock);
        check.due(0, jammed::built);
    }

    private static void stepBackTakesTwo(Check check) {
        check.title("Promise 26, takes the last part out, which takes 2, down to the first one");
        AssemblyPlanner planner = Products.tower(0, 1, 2, 3, 3, 2, 1, 0);
        planner.askSteady(true);
        planner.begin();
        for (int part = 0; part < 8; part++) {
            planner.step();
        }
        int clock = planner.clock();
        for (int part = 7; part >= 0; part--) {
            int at = part;
            clock += 2;
            int now = clock;
            check.due(at, planner::stepBack);
            check.due(now, planner::clock);
            check.due((1 << at) - 1, planner::built);
            // The tool stays as it is.
            check.due(0, planner::mounted);
        }
        stepIs(check, planner, 0, 1 + 1);
        stepIs(check, planner, 1, 5 + 1 + 1);
        check.due(1, planner::stepBack);
        stepIs(check, planner, 1, 1 + 1);
    }

    private static void builtNotBegun(Check check) {
        check.title("Promise 27, 0 also if the cell is not begun");
        check.due(0, () -> new AssemblyPlanner().built());
        check.due(0, () -> Products.row(1, 2).built());
        check.due(0, () -> Starts.apart().built());
        check.due(0, () -> stopped().built());
        check.due(0, () -> spoiled().built());
        check.due(0, () -> Starts.threeBegun().built());
    }

    private static void builtFromNoneToAll(Check check) {
        check.title("Promise 27, the set of the parts that are in, from none to all");
        AssemblyPlanner planner = Products.loose(1, 0, 0, 0, 0, 0, 0, 1);
        int[] order = {0, 7, 6, 5, 4, 3, 2, 1};
        planner.contact(0, 6, true);
        planner.contact(7, 0, true);
        for (int part = 2; part < 7; part++) {
            planner.contact(part, part - 1, true);
        }
        planner.begin();
        int in = 0;
        for (int part : order) {
            int before = in;
            check.due(before, planner::built);
            check.due(part, planner::step);
            in += 1 << part;
        }
        check.due(255, planner::built);
        check.due(1, planner::stepBack);
        check.due(253, planner::built);
        check.due(2, planner::stepBack);
        check.due(249, planner::built);
    }

    private static void clockNotBegun(Check check) {
        check.title("Promise 28, 0 if it is not begun");
        check.due(0, () -> new AssemblyPlanner().clock());
        check.due(0, () -> Products.row(1, 2).clock());
        check.due(0, () -> stopped().clock());
        check.due(0, () -> spoiled().clock());
        check.due(0, () -> Starts.threeBegun().clock());
        check.title("Promise 28, the time since the cell began");
        AssemblyPlanner planner = Products.row(1, 2);
        planner.begin();
        planner.step();
        planner.stepBack();
        check.due(9, planner::clock);
        planner.begin();
        check.due(0, planner::clock);
        planner.step();
        check.due(7, planner::clock);
    }

    private static void mountedNoneOrNotBegun(Check check) {
        check.title("Promise 29, NONE if none is, or the cell is not begun");
        check.due(NONE, () -> new AssemblyPlanner().mounted());
        check.due(NONE, () -> Products.row(0, 2).mounted());
        check.due(NONE, () -> stopped().mounted());
        check.due(NONE, () -> spoiled().mounted());
        check.due(NONE, () -> Starts.threeBegun().mounted());
        for (int tool = 0; tool <= 3; tool++) {
            AssemblyPlanner planner = Products.loose(tool);
            int needed = tool;
            planner.begin();
            check.due(NONE, planner::mounted);
            planner.step();
            check.due(needed, planner::mounted);
            planner.stepBack();
            check.due(needed, planner::mounted);
            planner.begin();
            check.due(NONE, planner::mounted);
            planner.step();
            planner.setTool(0, needed);
            check.due(NONE, planner::mounted);
        }
    }

    private static void isBypassedPart(Check check) {
        check.title("Promise 30, throws if there is no such part");
        Edges.refusedParts(check, AssemblyPlanner::isBypassed);
        for (int parts = 1; parts <= 8; parts++) {
            AssemblyPlanner planner = Products.row(new int[parts]);
            int last = parts - 1;
            planner.setJams(last, 2);
            planner.begin();
            for (int step = 0; step < parts; step++) {
                planner.step();
            }
            check.due(false, () -> planner.isBypassed(last));
            check.due(NONE, planner::step);
            check.due(true, () -> planner.isBypassed(last));
            for (int part = 0; part < last; part++) {
                int at = part;
                check.due(false, () -> planner.isBypassed(at));
            }
            check.due(Check.INDEX, () -> planner.isBypassed(last + 1));
        }
    }

    private static void isBypassedNotBegun(Check check) {
        check.title("Promise 30, false if the cell is not begun");
        AssemblyPlanner never = Products.row(0, 0);
        never.setJams(0, 5);
        check.due(false, () -> never.isBypassed(0));
        AssemblyPlanner stopped = stopped();
        check.due(false, () -> stopped.isBypassed(0));
        // Neither is it bypassed as soon as the cell begins again.
        check.due(2, stopped::begin);
        check.due(false, () -> stopped.isBypassed(0));
        check.due(1, () -> stopped.setJams(0, 1));
        check.due(NONE, stopped::step);
        check.due(false, () -> stopped.isBypassed(0));
        check.due(0, stopped::step);
    }

    private static void tellingWhatIsSoAlready(Check check) {
        check.title("The cell: each call that tells something, also if it is so already, makes it not begun");
        stops(check, planner -> planner.addPart(0));
        for (int part = 0; part < 3; part++) {
            int at = part;
            stops(check, planner -> planner.setTool(at, at == 1 ? 2 : 1));
            stops(check, planner -> planner.setTool(at, 3));
            stops(check, planner -> planner.setBase(at));
        }
        stops(check, planner -> planner.contact(0, 1, true));
        stops(check, planner -> planner.contact(0, 1, false));
        stops(check, planner -> planner.contact(0, 2, false));
        stops(check, planner -> planner.contact(0, 2, true));
        stops(check, planner -> planner.hinder(1, 5, 0, true));
        stops(check, planner -> planner.hinder(1, 5, 0, false));
        stops(check, planner -> planner.hinder(1, 0, 0, false));
        stops(check, planner -> planner.hinder(1, 0, 0, true));
        stops(check, planner -> planner.askSteady(false));
        stops(check, planner -> planner.askSteady(true));
        check.title("The cell: setJams() does not");
        AssemblyPlanner planner = Starts.three();
        int clock = planner.clock();
        planner.setJams(0, 0);
        planner.setJams(1, 5);
        planner.setJams(2, 0);
        check.due(3, planner::built);
        check.due(clock, planner::clock);
        check.due(1, planner::mounted);
        check.due(true, () -> planner.isBypassed(0));
        check.due(2, planner::step);
    }

    private static void stops(Check check, Edges.Use use) {
        AssemblyPlanner planner = Starts.three();
        check.due(3, planner::built);
        use.ask(planner);
        check.due(0, planner::built);
        check.due(0, planner::clock);
        check.due(NONE, planner::mounted);
        for (int part = 0; part < 3; part++) {
            int at = part;
            check.due(false, () -> planner.isBypassed(at));
        }
        check.due(Check.STATE, planner::step);
        check.due(Check.STATE, planner::stepBack);
        // The jams to come stay.
        check.due(0, () -> planner.setJams(0, 0));
        check.due(1, () -> planner.setJams(1, 0));
        check.due(2, () -> planner.setJams(2, 0));
    }

    private static void refusedTellingLeavesItBegun(Check check) {
        check.title("The cell: a call that throws leaves it begun");
        for (Edges.Start start : new Edges.Start[] {Starts::threeBegun, Starts::three, Starts::threeIn}) {
            Edges.refused(check, Check.ARGUMENT, start, planner -> planner.addPart(4));
            Edges.refused(check, Check.INDEX, start, planner -> planner.setTool(3, 0));
            Edges.refused(check, Check.ARGUMENT, start, planner -> planner.setTool(0, 4));
            Edges.refused(check, Check.INDEX, start, planner -> planner.contact(0, 3, true));
            Edges.refused(check, Check.ARGUMENT, start, planner -> planner.contact(1, 1, true));
            Edges.refused(check, Check.INDEX, start, planner -> planner.hinder(0, 6, 1, true));
            Edges.refused(check, Check.ARGUMENT, start, planner -> planner.hinder(1, 0, 1, true));
            Edges.refused(check, Check.INDEX, start, planner -> planner.setBase(3));
            Edges.refused(check, Check.ARGUMENT, start, planner -> planner.setJams(0, 6));
            Edges.refused(check, Check.INDEX, start, planner -> planner.orderAt(3));
            Edges.refused(check, Check.INDEX, start, planner -> planner.isBypassed(3));
        }
        Edges.refused(check, Check.STATE, Starts::eight, planner -> planner.addPart(0));
        Edges.refused(check, Check.STATE, Starts::eight, AssemblyPlanner::fewestByListing);
    }

    /** A step answers this part, or NONE, and takes so long. */
    private static void stepIs(Check check, AssemblyPlanner planner, int part, int time) {
        int before = planner.clock();
        check.due(part, planner::step);
        check.due(time, () -> planner.clock() - before);
    }
}
