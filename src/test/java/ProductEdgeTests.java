/** The boundary cases of promises 1 to 8, a function for each sentence. */
final class ProductEdgeTests {
    private static final int NONE = AssemblyPlanner.NONE;

    static void run(Check check) {
        noPartsYet(check);
        objectsShareNothing(check);
        addPartTool(check);
        addPartNumber(check);
        addPartWhenFull(check);
        addPartToolAheadOfFull(check);
        setToolPart(check);
        setToolTool(check);
        setToolPartAheadOfTool(check);
        setToolBefore(check);
        contactParts(check);
        contactWithItself(check);
        contactCounts(check);
        hinderParts(check);
        hinderDirection(check);
        hinderItself(check);
        hinderCounts(check);
        setBasePart(check);
        setBaseBefore(check);
        askSteadyBefore(check);
        partsFromNoneToEight(check);
    }

    private static void noPartsYet(Check check) {
        check.title("Promise 1, no parts");
        Edges.Start start = Starts::nothing;
        check.due(0, () -> start.make().parts());
        Edges.refused(check, Check.INDEX, start, planner -> planner.setTool(0, 0));
        Edges.refused(check, Check.INDEX, start, planner -> planner.contact(0, 1, true));
        Edges.refused(check, Check.INDEX, start, planner -> planner.hinder(0, 0, 1, true));
        Edges.refused(check, Check.INDEX, start, planner -> planner.setBase(0));
        check.due(false, () -> start.make().askSteady(false));
        check.due(false, () -> start.make().askSteady(true));
        Edges.refused(check, Check.ARGUMENT, start, planner -> planner.isConnected(1));
        Edges.refused(check, Check.ARGUMENT, start, planner -> planner.isSteady(1));
        Edges.refused(check, Check.INDEX, start, planner -> planner.free(1, 0));
        Edges.refused(check, Check.INDEX, start, planner -> planner.canTake(1, 0));
        Edges.refused(check, Check.INDEX, start, planner -> planner.movesWith(0, 0));
        Edges.refused(check, Check.INDEX, start, planner -> planner.boundTo(0, 0));
        Edges.refused(check, Check.ARGUMENT, start, planner -> planner.splits(1));
        Edges.refused(check, Check.STATE, start, AssemblyPlanner::ways);
        Edges.refused(check, Check.STATE, start, AssemblyPlanner::leastDepth);
        Edges.refused(check, Check.STATE, start, AssemblyPlanner::orders);
        Edges.refused(check, Check.STATE, start, AssemblyPlanner::fewestChanges);
        Edges.refused(check, Check.STATE, start, AssemblyPlanner::fewestByListing);
        Edges.refused(check, Check.INDEX, start, planner -> planner.orderAt(0));
        Edges.refused(check, Check.INDEX, start, planner -> planner.setJams(0, 0));
        Edges.refused(check, Check.STATE, start, AssemblyPlanner::begin);
        Edges.refused(check, Check.STATE, start, AssemblyPlanner::step);
        Edges.refused(check, Check.STATE, start, AssemblyPlanner::stepBack);
        check.due(0, () -> start.make().built());
        check.due(0, () -> start.make().clock());
        check.due(NONE, () -> start.make().mounted());
        Edges.refused(check, Check.INDEX, start, planner -> planner.isBypassed(0));
    }

    private static void objectsShareNothing(Check check) {
        check.title("Promise 1, a new object beside others");
        AssemblyPlanner other = Starts.eight();
        check.due("the same", () -> Portrait.compare(Starts.nothing(), new AssemblyPlanner()));
        AssemblyPlanner planner = Products.loose(1, 1);
        check.due(2, planner::parts);
        check.due(false, () -> planner.isConnected(3));
        check.due(63, () -> planner.free(3, 1));
        check.due(0, () -> planner.setJams(1, 0));
        check.due(0, planner::built);
        check.due("the same", () -> Portrait.compare(other, Starts.eight()));
    }

    private static void addPartTool(Check check) {
        check.title("Promise 2, tool: 0 to 3");
        for (int tool = 0; tool <= 3; tool++) {
            AssemblyPlanner planner = new AssemblyPlanner();
            int needed = tool;
            check.due(0, () -> planner.addPart(needed));
            check.due(needed, () -> planner.setTool(0, needed));
        }
        Edges.UseOf use = (planner, tool) -> planner.addPart(tool);
        Edges.refusedWith(check, Check.ARGUMENT, Starts::nothing, Edges.outside(3), use);
        Edges.refusedWith(check, Check.ARGUMENT, Starts::nothingSteady, Edges.outside(3), use);
        Edges.refusedWith(check, Check.ARGUMENT, Starts::one, Edges.outside(3), use);
        Edges.refusedWith(check, Check.ARGUMENT, Starts::three, Edges.outside(3), use);
    }

    private static void addPartNumber(Check check) {
        check.title("Promise 2, returns its number");
        AssemblyPlanner planner = new AssemblyPlanner();
        check.due(Check.ARGUMENT, () -> planner.addPart(4));
        for (int part = 0; part < 8; part++) {
            // A refused call takes no number.
            check.due(Check.ARGUMENT, () -> planner.addPart(-1));
            check.due(part, () -> planner.addPart(3));
        }
    }

    private static void addPartWhenFull(Check check) {
        check.title("Promise 2, throws if there are 8 parts");
        AssemblyPlanner seven = Products.clump(0, 0, 0, 0, 0, 0, 0);
        check.due(7, () -> seven.addPart(0));
        check.due(8, seven::parts);
        check.due(Check.STATE, () -> seven.addPart(0));
        check.due(8, seven::parts);
        for (int tool = 0; tool <= 3; tool++) {
            int needed = tool;
            Edges.refused(check, Check.STATE, Starts::eight, planner -> planner.addPart(needed));
        }
    }

    private static void addPartToolAheadOfFull(Check check) {
        check.title("Promise 2, the tool decides ahead of the 8 parts");
        Edges.refusedWith(check, Check.ARGUMENT, Starts::eight, Edges.outside(3),
                (planner, tool) -> planner.addPart(tool));
    }

    private static void setToolPart(Check check) {
        check.title("Promise 3, part: a part");
        AssemblyPlanner planner = Products.loose(0, 1, 2, 3, 3, 2, 1, 0);
        check.due(0, () -> planner.setTool(0, 1));
        check.due(0, () -> planner.setTool(7, 2));
        check.due(1, () -> planner.setTool(0, 0));
        check.due(2, () -> planner.setTool(7, 0));
        check.due(1, () -> planner.setTool(6, 0));
        AssemblyPlanner one = Products.loose(3);
        check.due(3, () -> one.setTool(0, 0));
        Edges.refusedParts(check, (with, part) -> with.setTool(part, 0));
        Edges.refusedParts(check, (with, part) -> with.setTool(part, 3));
    }

    private static void setToolTool(Check check) {
        check.title("Promise 3, tool: 0 to 3");
        AssemblyPlanner planner = Products.loose(1, 1);
        int before = 1;
        for (int tool = 0; tool <= 3; tool++) {
            int needed = tool;
            int last = before;
            check.due(last, () -> planner.setTool(1, needed));
            before = tool;
        }
        check.due(3, () -> planner.setTool(1, 3));
        check.due(1, () -> planner.setTool(0, 1));
        Edges.UseOf use = (with, tool) -> with.setTool(0, tool);
        Edges.refusedWith(check, Check.ARGUMENT, Starts::one, Edges.outside(3), use);
        Edges.refusedWith(check, Check.ARGUMENT, Starts::three, Edges.outside(3), use);
        Edges.refusedWith(check, Check.ARGUMENT, Starts::eight, Edges.outside(3),
                (with, tool) -> with.setTool(7, tool));
    }

    private static void setToolPartAheadOfTool(Check check) {
        check.title("Promise 3, the part decides ahead of the tool");
        Edges.refusedParts(check, (planner, part) -> planner.setTool(part, 4));
        Edges.refusedParts(check, (planner, part) -> planner.setTool(part, -1));
        Edges.refusedParts(check, (planner, part) -> planner.setTool(part, Integer.MIN_VALUE));
        Edges.refusedParts(check, (planner, part) -> planner.setTool(part, Integer.MAX_VALUE));
    }

    private static void setToolBefore(Check check) {
        check.title("Promise 3, returns the tool before, also if it is so already");
        AssemblyPlanner planner = Products.loose(2, 0);
        check.due(2, () -> planner.setTool(0, 2));
        check.due(2, () -> planner.setTool(0, 2));
        check.due(0, () -> planner.setTool(1, 0));
        check.due(2, () -> planner.setTool(0, 0));
        check.due(0, () -> planner.setTool(0, 3));
    }

    private static void contactParts(Check check) {
        check.title("Promise 4, throws if there is no such part, of either");
        AssemblyPlanner planner = Products.loose(0, 0, 0, 0, 0, 0, 0, 0);
        check.due(1, () -> planner.contact(0, 7, true));
        check.due(2, () -> planner.contact(7, 6, true));
        check.due(true, () -> planner.isConnected(1 + 64 + 128));
        Edges.refusedParts(check, (with, part) -> with.contact(part, 0, true));
        Edges.refusedParts(check, (with, part) -> with.contact(0, part, true));
        Edges.refusedParts(check, (with, part) -> with.contact(0, part, false));
        Edges.refusedParts(check, (with, part) -> with.contact(part, part - 1, true));
        check.title("Promise 4, no such part decides ahead of both being the same");
        Edges.refusedParts(check, (with, part) -> with.contact(part, part, true));
        Edges.refusedParts(check, (with, part) -> with.contact(part, part, false));
    }

    private static void contactWithItself(Check check) {
        check.title("Promise 4, throws if both are the same");
        Edges.refused(check, Check.ARGUMENT, Starts::one, planner -> planner.contact(0, 0, true));
        for (int part = 0; part < 8; part++) {
            int itself = part;
            Edges.refused(check, Check.ARGUMENT, Starts::eight, planner -> planner.contact(itself, itself, true));
            Edges.refused(check, Check.ARGUMENT, Starts::eight, planner -> planner.contact(itself, itself, false));
        }
    }

    private static void contactCounts(Check check) {
        check.title("Promise 4, returns with how many parts the first one is in contact, from 0 to 7");
        AssemblyPlanner planner = Products.loose(0, 0, 0, 0, 0, 0, 0, 0);
        check.due(0, () -> planner.contact(3, 0, false));
        int count = 0;
        for (int other : new int[] {7, 0, 6, 1, 5, 2, 4}) {
            count++;
            int now = count;
            check.due(now, () -> planner.contact(3, other, true));
            check.due(now, () -> planner.contact(3, other, true));
            check.due(1, () -> planner.contact(other, 3, true));
        }
        for (int other : new int[] {4, 7, 0, 6, 1, 5, 2}) {
            count--;
            int now = count;
            check.due(0, () -> planner.contact(other, 3, false));
            check.due(now, () -> planner.contact(3, other, false));
        }
    }

    private static void hinderParts(Check check) {
        check.title("Promise 5, throws if there is no such part, of either");
        AssemblyPlanner planner = Products.loose(0, 0, 0, 0, 0, 0, 0, 0);
        check.due(1, () -> planner.hinder(7, 5, 0, true));
        check.due(1, () -> planner.hinder(0, 0, 7, true));
        Edges.refusedParts(check, (with, part) -> with.hinder(part, 0, 0, true));
        Edges.refusedParts(check, (with, part) -> with.hinder(0, 5, part, true));
        Edges.refusedParts(check, (with, part) -> with.hinder(0, 5, part, false));
        Edges.refusedParts(check, (with, part) -> with.hinder(part, 1, part - 1, true));
        check.title("Promise 5, no such part decides ahead of both being the same");
        Edges.refusedParts(check, (with, part) -> with.hinder(part, 0, part, true));
        Edges.refusedParts(check, (with, part) -> with.hinder(part, 6, part, true));
    }

    private static void hinderDirection(Check check) {
        check.title("Promise 5, direction: 0 to 5");
        for (int direction = 0; direction <= 5; direction++) {
            AssemblyPlanner planner = Products.loose(0, 0);
            int way = direction;
            check.due(1, () -> planner.hinder(1, way, 0, true));
            check.due(63 - (1 << way), () -> planner.free(3, 1));
        }
        Edges.refusedDirections(check, (planner, direction) -> planner.hinder(0, direction, 1, true));
        Edges.refusedDirections(check, (planner, direction) -> planner.hinder(2, direction, 1, false));
        check.title("Promise 5, no such direction decides ahead of both being the same");
        Edges.refusedWith(check, Check.INDEX, Starts::one, Edges.outside(5),
                (planner, direction) -> planner.hinder(0, direction, 0, true));
        Edges.refusedDirections(check, (planner, direction) -> planner.hinder(1, direction, 1, true));
    }

    private static void hinderItself(Check check) {
        check.title("Promise 5, throws if both are the same");
        Edges.refused(check, Check.ARGUMENT, Starts::one, planner -> planner.hinder(0, 0, 0, true));
        for (int direction = 0; direction <= 5; direction++) {
            int way = direction;
            Edges.refused(check, Check.ARGUMENT, Starts::three, planner -> planner.hinder(0, way, 0, true));
            Edges.refused(check, Check.ARGUMENT, Starts::three, planner -> planner.hinder(2, way, 2, false));
            Edges.refused(check, Check.ARGUMENT, Starts::eight, planner -> planner.hinder(7, way, 7, true));
        }
    }

    private static void hinderCounts(Check check) {
        check.title("Promise 5, returns by how many parts the first one is hindered, from 0 to 7");
        AssemblyPlanner planner = Products.loose(0, 0, 0, 0, 0, 0, 0, 0);
        check.due(0, () -> planner.hinder(4, 2, 0, false));
        int count = 0;
        for (int other : new int[] {7, 0, 6, 1, 5, 2, 3}) {
            count++;
            int now = count;
            check.due(now, () -> planner.hinder(4, 2, other, true));
            check.due(now, () -> planner.hinder(4, 2, other, true));
            check.due(1, () -> planner.hinder(other, 3, 4, true));
            check.due(0, () -> planner.hinder(other, 2, 4, false));
        }
        for (int other : new int[] {3, 7, 0, 6, 1, 5, 2}) {
            count--;
            int now = count;
            check.due(0, () -> planner.hinder(other, 3, 4, false));
            check.due(now, () -> planner.hinder(4, 2, other, false));
        }
    }

    private static void setBasePart(Check check) {
        check.title("Promise 6, throws if there is no such part");
        AssemblyPlanner planner = Products.loose(0, 0, 0, 0, 0, 0, 0, 0);
        check.due(0, () -> planner.setBase(7));
        check.due(true, () -> planner.isSteady(128));
        check.due(7, () -> planner.setBase(0));
        check.due(true, () -> planner.isSteady(1));
        Edges.refusedParts(check, AssemblyPlanner::setBase);
    }

    private static void setBaseBefore(Check check) {
        check.title("Promise 6, returns the base before, also if it is so already");
        AssemblyPlanner planner = Products.loose(0, 0);
        check.due(0, () -> planner.setBase(0));
        check.due(0, () -> planner.setBase(1));
        check.due(1, () -> planner.setBase(1));
        check.due(2, () -> planner.addPart(0));
        check.due(1, () -> planner.setBase(2));
        check.due(Check.INDEX, () -> planner.setBase(3));
        check.due(2, () -> planner.setBase(0));
    }

    private static void askSteadyBefore(Check check) {
        check.title("Promise 7, returns whether it was, also if it is so already");
        AssemblyPlanner planner = new AssemblyPlanner();
        check.due(false, () -> planner.askSteady(false));
        check.due(false, () -> planner.askSteady(true));
        check.due(true, () -> planner.askSteady(true));
        planner.addPart(0);
        check.due(true, () -> planner.askSteady(true));
        check.due(true, () -> planner.askSteady(false));
        check.due(false, () -> planner.askSteady(false));
    }

    private static void partsFromNoneToEight(Check check) {
        check.title("Promise 8, how many parts there are, from 0 to 8");
        AssemblyPlanner planner = new AssemblyPlanner();
        check.due(0, planner::parts);
        for (int part = 0; part < 8; part++) {
            planner.addPart(1);
            check.due(part + 1, planner::parts);
        }
        check.due(Check.STATE, () -> planner.addPart(1));
        check.due(8, planner::parts);
        check.due(1, () -> Starts.one().parts());
        check.due(3, () -> Starts.three().parts());
    }
}
