/** Promises 19 to 22: orders. */
final class OrderTests {
    static void run(Check check) {
        orders(check);
        fewestChanges(check);
        fewestByListing(check);
        orderAt(check);
        orderAtFollowsTheProduct(check);
    }

    private static void orders(Check check) {
        check.title("Promise 19: orders");
        check.due(Check.STATE, () -> new AssemblyPlanner().orders());
        check.due(1, () -> Products.loose(3).orders());
        check.due(0, () -> Products.loose(0, 0).orders());
        check.due(2, () -> Products.row(0, 0).orders());
        check.due(4, () -> Products.row(0, 0, 0).orders());
        check.due(6, () -> Products.clump(0, 0, 0).orders());
        check.due(40320, () -> Products.clump(0, 0, 0, 0, 0, 0, 0, 0).orders());
        check.due(128, () -> Products.row(0, 0, 0, 0, 0, 0, 0, 0).orders());

        AssemblyPlanner tower = Products.tower(0, 0, 0);
        check.due(4, tower::orders);
        tower.askSteady(true);
        check.due(1, tower::orders);
        tower.setBase(1);
        check.due(0, tower::orders);

        AssemblyPlanner locked = Products.row(0, 0, 0);
        Products.lock(locked, 1, 2);
        check.due(0, locked::orders);
        locked.hinder(2, 3, 1, false);
        check.due(4, locked::orders);

        // Part 1 is caught between the others: it can't come last.
        AssemblyPlanner caught = Products.clump(0, 0, 0);
        for (int direction = 0; direction < 6; direction += 2) {
            caught.hinder(1, direction, 0, true);
            caught.hinder(1, direction + 1, 2, true);
        }
        check.due(4, caught::orders);
    }

    private static void fewestChanges(Check check) {
        check.title("Promise 20: fewestChanges");
        check.due(Check.STATE, () -> new AssemblyPlanner().fewestChanges());
        check.due(0, () -> Products.loose(3).fewestChanges());
        check.due(AssemblyPlanner.NONE, () -> Products.loose(0, 0).fewestChanges());
        check.due(0, () -> Products.row(1, 1, 1).fewestChanges());
        check.due(1, () -> Products.row(1, 0, 1).fewestChanges());
        check.due(1, () -> Products.clump(1, 0, 1).fewestChanges());
        check.due(2, () -> Products.row(1, 2, 1, 2).fewestChanges());
        check.due(3, () -> Products.clump(3, 2, 1, 0, 3, 2, 1, 0).fewestChanges());

        AssemblyPlanner tower = Products.tower(1, 2, 1, 2, 1, 2, 1, 2);
        tower.askSteady(true);
        check.due(7, tower::fewestChanges);
    }

    private static void fewestByListing(Check check) {
        check.title("Promise 21: fewestByListing");
        check.due(Check.STATE, () -> new AssemblyPlanner().fewestByListing());
        check.due(0, () -> Products.loose(3).fewestByListing());
        check.due(AssemblyPlanner.NONE, () -> Products.loose(0, 0).fewestByListing());
        check.due(1, () -> Products.row(1, 0, 1).fewestByListing());
        check.due(1, () -> Products.clump(1, 0, 1).fewestByListing());
        check.due(3, () -> Products.clump(3, 2, 1, 0, 3, 2, 1).fewestByListing());

        AssemblyPlanner tower = Products.tower(1, 2, 1, 2, 1, 2, 1);
        tower.askSteady(true);
        check.due(6, tower::fewestByListing);
        tower.setTool(6, 2);
        check.due(5, tower::fewestByListing);
        tower.addPart(0);
        check.due(Check.STATE, tower::fewestByListing);
        check.due(AssemblyPlanner.NONE, tower::fewestChanges);
    }

    private static void orderAt(Check check) {
        check.title("Promise 22: orderAt");
        check.due(Check.INDEX, () -> new AssemblyPlanner().orderAt(0));
        orderIs(check, Products.loose(2), 0);
        orderIs(check, Products.clump(0, 0, 0), 0, 1, 2);
        orderIs(check, Products.clump(0, 1, 0, 1), 0, 2, 1, 3);
        orderIs(check, Products.row(1, 2, 1, 2), 1, 0, 2, 3);
        orderIs(check, Products.row(2, 1, 2, 1, 1), 1, 0, 2, 3, 4);
        orderIs(check, Products.clump(3, 2, 1, 0, 3, 2, 1, 0), 0, 4, 1, 5, 2, 6, 3, 7);

        AssemblyPlanner tower = Products.tower(1, 2, 3, 0);
        tower.askSteady(true);
        orderIs(check, tower, 0, 1, 2, 3);

        AssemblyPlanner loose = Products.loose(0, 0);
        check.due(Check.INDEX, () -> loose.orderAt(0));
        check.due(Check.INDEX, () -> loose.orderAt(1));
        check.due(Check.INDEX, () -> loose.orderAt(2));
        check.due(Check.INDEX, () -> loose.orderAt(-1));
    }

    private static void orderAtFollowsTheProduct(Check check) {
        AssemblyPlanner planner = Products.clump(0, 1, 0);
        orderIs(check, planner, 0, 2, 1);
        planner.setTool(2, 1);
        orderIs(check, planner, 0, 1, 2);
        planner.contact(0, 1, false);
        planner.contact(1, 2, false);
        check.due(Check.INDEX, () -> planner.orderAt(0));
        planner.contact(1, 2, true);
        orderIs(check, planner, 0, 2, 1);
        planner.askSteady(true);
        check.due(Check.INDEX, () -> planner.orderAt(0));
        planner.hinder(2, 5, 1, true);
        planner.hinder(0, 5, 2, true);
        check.due(Check.INDEX, () -> planner.orderAt(0));
        planner.setBase(1);
        orderIs(check, planner, 1, 2, 0);
        planner.addPart(1);
        check.due(Check.INDEX, () -> planner.orderAt(0));
        planner.askSteady(false);
        planner.contact(3, 0, true);
        orderIs(check, planner, 0, 2, 1, 3);
    }

    private static void orderIs(Check check, AssemblyPlanner planner, int... parts) {
        for (int place = 0; place < parts.length; place++) {
            int at = place;
            check.due(parts[at], () -> planner.orderAt(at));
        }
        check.due(Check.INDEX, () -> planner.orderAt(parts.length));
        check.due(Check.INDEX, () -> planner.orderAt(-1));
        check.due(Check.INDEX, () -> planner.orderAt(Integer.MAX_VALUE));
        check.due(Check.INDEX, () -> planner.orderAt(Integer.MIN_VALUE));
    }
}
