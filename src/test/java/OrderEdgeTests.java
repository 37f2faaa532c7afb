/** The boundary cases of promises 19 to 22, a function for each sentence. */
final class OrderEdgeTests {
    private static final int NONE = AssemblyPlanner.NONE;

    static void run(Check check) {
        ordersWithoutParts(check);
        ordersFromNoneToAll(check);
        ordersTheFirstPart(check);
        ordersNotSound(check);
        changesWithoutParts(check);
        changesWithoutOrder(check);
        changesOfTheFirstPart(check);
        changesFromPartToPart(check);
        changesOfPossibleOrdersAlone(check);
        listingWithoutPartsOrWithEight(check);
        listingWithoutOrder(check);
        listingAsBySets(check);
        orderAtPlace(check);
        orderAtWithoutOrder(check);
        orderAtTheLesserPart(check);
        orderAtFewestFirst(check);
    }

    private static void ordersWithoutParts(Check check) {
        check.title("Promise 19, throws if there are no parts");
        Edges.refused(check, Check.STATE, Starts::nothing, AssemblyPlanner::orders);
        Edges.refused(check, Check.STATE, Starts::nothingSteady, AssemblyPlanner::orders);
        AssemblyPlanner planner = new AssemblyPlanner();
        check.due(Check.STATE, planner::orders);
        planner.addPart(0);
        check.due(1, planner::orders);
    }

    private static void ordersFromNoneToAll(Check check) {
        check.title("Promise 19, how many orders are possible: none, one, all");
        int all = 1;
        for (int parts = 1; parts <= 8; parts++) {
            all *= parts;
            int due = all;
            int[] tools = new int[parts];
            check.due(due, () -> Products.clump(tools).orders());
            check.due(parts == 1 ? 1 : 0, () -> Products.loose(tools).orders());
            check.due(1 << (tools.length - 1), () -> Products.row(tools).orders());
            AssemblyPlanner steady = Products.tower(tools);
            steady.askSteady(true);
            check.due(1, steady::orders);
        }
        AssemblyPlanner locked = Products.clump(0, 0, 0, 0, 0, 0, 0, 0);
        for (int part = 1; part < 8; part++) {
            Products.lock(locked, 0, part);
        }
        check.due(0, locked::orders);
    }

    private static void ordersTheFirstPart(Check check) {
        check.title("Promise 19, the first part of an order can be taken out at once again");
        check.due(2, () -> Products.row(0, 0).orders());
        for (int base = 0; base < 8; base++) {
            // Each part stands on each: any order that starts with the base is possible.
            AssemblyPlanner planner = Products.clump(0, 0, 0, 0, 0, 0, 0, 0);
            for (int part = 0; part < 8; part++) {
                for (int other = 0; other < 8; other++) {
                    if (part != other) {
                        planner.hinder(part, 5, other, true);
                    }
                }
            }
            planner.askSteady(true);
            planner.setBase(base);
            check.due(5040, planner::orders);
            int first = base;
            check.due(first, () -> planner.orderAt(0));
        }
        AssemblyPlanner one = Products.loose(0);
        one.askSteady(true);
        check.due(1, one::orders);
    }

    private static void ordersNotSound(Check check) {
        check.title("Promise 19, each part is added to a sound set, makes a sound set, and is free then");
        // Parts 0 and 1 meet at part 2 alone: it can't come last.
        AssemblyPlanner bridge = Products.loose(0, 0, 0);
        bridge.contact(0, 2, true);
        bridge.contact(1, 2, true);
        check.due(4, bridge::orders);
        check.due(0, () -> bridge.orderAt(0));
        check.due(2, () -> bridge.orderAt(1));
        // A part that is locked by two others together can't come last of the three.
        AssemblyPlanner between = Products.clump(0, 0, 0);
        for (int direction = 0; direction <= 5; direction++) {
            between.hinder(0, direction, direction < 3 ? 1 : 2, true);
        }
        check.due(4, between::orders);
        between.hinder(0, 0, 1, false);
        check.due(6, between::orders);
        // As soon as one of the locked two is there, the other one can't come, in any order.
        AssemblyPlanner locked = Products.clump(0, 0, 0, 0);
        Products.lock(locked, 3, 0);
        check.due(0, locked::orders);
        AssemblyPlanner standing = Products.row(0, 0, 0);
        standing.askSteady(true);
        check.due(0, standing::orders);
        standing.hinder(1, 5, 0, true);
        check.due(0, standing::orders);
        standing.hinder(2, 5, 0, true);
        check.due(1, standing::orders);
        standing.contact(0, 2, true);
        check.due(2, standing::orders);
        standing.askSteady(false);
        check.due(6, standing::orders);
    }

    private static void changesWithoutParts(Check check) {
        check.title("Promise 20, throws if there are no parts");
        Edges.refused(check, Check.STATE, Starts::nothing, AssemblyPlanner::fewestChanges);
        Edges.refused(check, Check.STATE, Starts::nothingSteady, AssemblyPlanner::fewestChanges);
        AssemblyPlanner planner = new AssemblyPlanner();
        check.due(Check.STATE, planner::fewestChanges);
        planner.addPart(0);
        check.due(0, planner::fewestChanges);
    }

    private static void changesWithoutOrder(Check check) {
        check.title("Promise 20, NONE if no order is possible");
        check.due(NONE, () -> Products.loose(0, 0).fewestChanges());
        check.due(NONE, () -> Products.loose(0, 1, 2, 3, 0, 1, 2, 3).fewestChanges());
        check.due(NONE, () -> Starts.apart().fewestChanges());
        AssemblyPlanner planner = Products.row(0, 1);
        Products.lock(planner, 0, 1);
        check.due(NONE, planner::fewestChanges);
        planner.hinder(0, 5, 1, false);
        check.due(1, planner::fewestChanges);
        planner.askSteady(true);
        check.due(1, planner::fewestChanges);
        planner.setBase(1);
        check.due(NONE, planner::fewestChanges);
    }

    private static void changesOfTheFirstPart(Check check) {
        check.title("Promise 20, the first part of an order needs no change");
        for (int tool = 0; tool <= 3; tool++) {
            int needed = tool;
            check.due(0, () -> Products.loose(needed).fewestChanges());
            check.due(0, () -> Products.row(needed, needed).fewestChanges());
            check.due(1, () -> Products.row(needed, 3 - needed).fewestChanges());
            check.due(0, () -> Products.clump(needed, needed, needed, needed, needed, needed, needed, needed)
                    .fewestChanges());
        }
    }

    private static void changesFromPartToPart(Check check) {
        check.title("Promise 20, another tool than the part just ahead: up to 7 changes");
        for (int parts = 1; parts <= 8; parts++) {
            int[] tools = new int[parts];
            for (int part = 0; part < parts; part++) {
                tools[part] = part % 2 == 0 ? 3 : 0;
            }
            AssemblyPlanner planner = Products.tower(tools);
            planner.askSteady(true);
            int due = parts - 1;
            check.due(due, planner::fewestChanges);
        }
        AssemblyPlanner back = Products.tower(1, 1, 2, 2, 1, 1, 3, 3);
        back.askSteady(true);
        check.due(3, back::fewestChanges);
        check.due(3, () -> Products.clump(0, 1, 2, 3, 0, 1, 2, 3).fewestChanges());
    }

    private static void changesOfPossibleOrdersAlone(Check check) {
        check.title("Promise 20, the fewest of the possible orders alone");
        // Parts 0 and 2 need the same tool, but part 1 is between them.
        check.due(1, () -> Products.row(1, 2, 1).fewestChanges());
        AssemblyPlanner planner = Products.tower(1, 2, 1);
        planner.askSteady(true);
        check.due(2, planner::fewestChanges);
        planner.askSteady(false);
        check.due(1, planner::fewestChanges);
    }

    private static void listingWithoutPartsOrWithEight(Check check) {
        check.title("Promise 21, throws if there are no parts, or more than 7");
        Edges.refused(check, Check.STATE, Starts::nothing, AssemblyPlanner::fewestByListing);
        Edges.refused(check, Check.STATE, Starts::nothingSteady, AssemblyPlanner::fewestByListing);
        Edges.refused(check, Check.STATE, Starts::eight, AssemblyPlanner::fewestByListing);
        Edges.refused(check, Check.STATE, () -> Products.loose(0, 0, 0, 0, 0, 0, 0, 0),
                AssemblyPlanner::fewestByListing);
        AssemblyPlanner planner = new AssemblyPlanner();
        check.due(Check.STATE, planner::fewestByListing);
        for (int part = 0; part < 7; part++) {
            int now = part;
            planner.addPart(part % 4);
            for (int other = 0; other < part; other++) {
                planner.contact(now, other, true);
            }
            check.due(Math.min(part, 3), planner::fewestByListing);
        }
        planner.addPart(0);
        check.due(Check.STATE, planner::fewestByListing);
        planner.contact(7, 0, true);
        check.due(Check.STATE, planner::fewestByListing);
        check.due(3, planner::fewestChanges);
    }

    private static void listingWithoutOrder(Check check) {
        check.title("Promise 21, NONE if no order is possible");
        check.due(NONE, () -> Products.loose(0, 0).fewestByListing());
        check.due(NONE, () -> Products.loose(0, 1, 2, 3, 0, 1, 2).fewestByListing());
        check.due(NONE, () -> Starts.apart().fewestByListing());
        AssemblyPlanner planner = Products.row(0, 1);
        Products.lock(planner, 0, 1);
        check.due(NONE, planner::fewestByListing);
        planner.hinder(0, 4, 1, false);
        check.due(1, planner::fewestByListing);
        // The orders come to an end one part ahead of the last one.
        AssemblyPlanner last = Products.clump(0, 0, 0, 0, 0, 0, 0);
        for (int part = 0; part < 6; part++) {
            last.contact(6, part, false);
        }
        check.due(NONE, last::fewestByListing);
    }

    private static void listingAsBySets(Check check) {
        check.title("Promise 21, the same as by sets, from 0 to 6 changes");
        for (int parts = 1; parts <= 7; parts++) {
            int[] tools = new int[parts];
            for (int part = 0; part < parts; part++) {
                tools[part] = part % 2 == 0 ? 3 : 0;
            }
            AssemblyPlanner planner = Products.tower(tools);
            int loosely = planner.fewestChanges();
            check.due(loosely, planner::fewestByListing);
            planner.askSteady(true);
            int due = parts - 1;
            check.due(due, planner::fewestByListing);
        }
        for (int tool = 0; tool <= 3; tool++) {
            int needed = tool;
            check.due(0, () -> Products.loose(needed).fewestByListing());
            check.due(0, () -> Products.row(needed, needed).fewestByListing());
        }
    }

    private static void orderAtPlace(Check check) {
        check.title("Promise 22, throws if there is no such place");
        AssemblyPlanner one = Products.loose(3);
        check.due(0, () -> one.orderAt(0));
        AssemblyPlanner eight = Products.clump(0, 0, 0, 0, 0, 0, 0, 0);
        for (int place = 0; place < 8; place++) {
            int at = place;
            check.due(at, () -> eight.orderAt(at));
        }
        Edges.refusedWith(check, Check.INDEX, Starts::nothing, Edges.outside(-1), AssemblyPlanner::orderAt);
        Edges.refusedWith(check, Check.INDEX, Starts::one, Edges.outside(0), AssemblyPlanner::orderAt);
        Edges.refusedWith(check, Check.INDEX, Starts::three, Edges.outside(2), AssemblyPlanner::orderAt);
        Edges.refusedWith(check, Check.INDEX, Starts::eight, Edges.outside(7), AssemblyPlanner::orderAt);
    }

    private static void orderAtWithoutOrder(Check check) {
        check.title("Promise 22, throws if no order is possible");
        int[] places = {0, 1, 2, 3, -1, Integer.MIN_VALUE, Integer.MAX_VALUE};
        Edges.refusedWith(check, Check.INDEX, Starts::nothing, places, AssemblyPlanner::orderAt);
        Edges.refusedWith(check, Check.INDEX, Starts::apart, places, AssemblyPlanner::orderAt);
        Edges.refusedWith(check, Check.INDEX, () -> Products.loose(0, 0, 0, 0, 0, 0, 0, 0),
                new int[] {0, 1, 2, 3, 4, 5, 6, 7, 8}, AssemblyPlanner::orderAt);
        // The best order of the product ahead is not answered any more.
        AssemblyPlanner planner = Products.row(0, 0);
        check.due(1, () -> planner.orderAt(1));
        planner.addPart(0);
        check.due(Check.INDEX, () -> planner.orderAt(0));
        check.due(Check.INDEX, () -> planner.orderAt(2));
        planner.contact(2, 1, true);
        check.due(0, () -> planner.orderAt(0));
        check.due(2, () -> planner.orderAt(2));
    }

    private static void orderAtTheLesserPart(Check check) {
        check.title("Promise 22, of several best orders the one with the lesser part where they differ first");
        orderIs(check, Products.clump(1, 1), 0, 1);
        orderIs(check, Products.clump(2, 1), 0, 1);
        // They differ at the first place, then at the second, then at the last but one.
        orderIs(check, Products.clump(2, 1, 2, 1), 0, 2, 1, 3);
        orderIs(check, Products.row(0, 0, 0, 0), 0, 1, 2, 3);
        orderIs(check, Products.clump(0, 3, 2, 1), 0, 1, 2, 3);
        AssemblyPlanner middle = Products.loose(0, 0, 0, 0);
        middle.contact(3, 0, true);
        middle.contact(3, 1, true);
        middle.contact(3, 2, true);
        orderIs(check, middle, 0, 3, 1, 2);
        AssemblyPlanner steady = Products.clump(0, 0, 0, 0);
        steady.setBase(3);
        for (int part = 0; part < 3; part++) {
            steady.hinder(part, 5, 3, true);
        }
        steady.askSteady(true);
        orderIs(check, steady, 3, 0, 1, 2);
    }

    private static void orderAtFewestFirst(Check check) {
        check.title("Promise 22, fewer tool changes come ahead of lesser parts");
        orderIs(check, Products.clump(1, 2, 1), 0, 2, 1);
        orderIs(check, Products.row(1, 2, 1, 2), 1, 0, 2, 3);
        orderIs(check, Products.row(1, 2, 2, 1, 1), 1, 2, 0, 3, 4);
        AssemblyPlanner last = Products.loose(1, 2, 2, 2);
        last.contact(3, 0, true);
        last.contact(3, 1, true);
        last.contact(3, 2, true);
        orderIs(check, last, 0, 3, 1, 2);
        last.setTool(2, 1);
        // 0 3 1 2 changes twice, 1 3 0 2 once.
        orderIs(check, last, 1, 3, 0, 2);
    }

    private static void orderIs(Check check, AssemblyPlanner planner, int... parts) {
        for (int place = 0; place < parts.length; place++) {
            int at = place;
            check.due(parts[at], () -> planner.orderAt(at));
        }
        check.due(Check.INDEX, () -> planner.orderAt(parts.length));
        check.due(parts.length, planner::begin);
        for (int part : parts) {
            check.due(part, planner::step);
        }
    }
}
