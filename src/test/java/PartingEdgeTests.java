/** The boundary cases of promises 13 to 18, a function for each sentence. */
final class PartingEdgeTests {
    private static final int NONE = AssemblyPlanner.NONE;

    static void run(Check check) {
        movesWithPart(check);
        movesWithDirection(check);
        movesWithNoneAndAll(check);
        boundToPart(check);
        boundToDirection(check);
        boundToNoneAndAll(check);
        groupsDirection(check);
        groupsFromNoneToEight(check);
        splitsSet(check);
        splitsOfOneAndApart(check);
        splitsConnectedHalves(check);
        splitsCountedOnce(check);
        splitsWithOneDirection(check);
        waysWithoutParts(check);
        waysOfOneAndApart(check);
        waysWithoutSplits(check);
        leastDepthWithoutParts(check);
        leastDepthOfOneAndApart(check);
        leastDepthFromNoneToSeven(check);
    }

    private static void movesWithPart(Check check) {
        check.title("Promise 13, throws if there is no such part");
        AssemblyPlanner planner = Products.loose(0, 0, 0, 0, 0, 0, 0, 0);
        check.due(1, () -> planner.movesWith(0, 0));
        check.due(128, () -> planner.movesWith(7, 5));
        Edges.refusedParts(check, (with, part) -> with.movesWith(part, 0));
        Edges.refusedParts(check, (with, part) -> with.movesWith(part, 6));
    }

    private static void movesWithDirection(Check check) {
        check.title("Promise 13, throws if there is no such direction");
        AssemblyPlanner planner = Products.loose(0, 0);
        planner.hinder(0, 0, 1, true);
        planner.hinder(0, 5, 1, true);
        check.due(3, () -> planner.movesWith(0, 0));
        check.due(3, () -> planner.movesWith(0, 5));
        check.due(1, () -> planner.movesWith(0, 1));
        check.due(1, () -> planner.movesWith(0, 4));
        Edges.refusedDirections(check, (with, direction) -> with.movesWith(0, direction));
        Edges.refusedDirections(check, (with, direction) -> with.movesWith(2, direction));
        Edges.refusedWith(check, Check.INDEX, Starts::nothing, Edges.outside(5),
                (with, direction) -> with.movesWith(0, direction));
    }

    private static void movesWithNoneAndAll(Check check) {
        check.title("Promise 13, the part itself in it: nothing hinders it, or all do, one behind the other");
        AssemblyPlanner planner = Products.loose(0, 0, 0, 0, 0, 0, 0, 0);
        for (int part = 0; part < 8; part++) {
            int at = part;
            check.due(1 << at, () -> planner.movesWith(at, 4));
        }
        for (int part = 7; part > 0; part--) {
            planner.hinder(part, 4, part - 1, true);
        }
        for (int part = 0; part < 8; part++) {
            int at = part;
            check.due((2 << at) - 1, () -> planner.movesWith(at, 4));
            check.due(256 - (1 << at), () -> planner.movesWith(at, 5));
            check.due(1 << at, () -> planner.movesWith(at, 3));
        }
        planner.hinder(0, 4, 7, true);
        check.due(255, () -> planner.movesWith(0, 4));
        check.due(255, () -> planner.movesWith(3, 5));
        check.due(1, () -> Products.loose(0).movesWith(0, 0));
    }

    private static void boundToPart(Check check) {
        check.title("Promise 14, throws if there is no such part");
        AssemblyPlanner planner = Products.loose(0, 0, 0, 0, 0, 0, 0, 0);
        check.due(1, () -> planner.boundTo(0, 0));
        check.due(128, () -> planner.boundTo(7, 5));
        Edges.refusedParts(check, (with, part) -> with.boundTo(part, 0));
        Edges.refusedParts(check, (with, part) -> with.boundTo(part, 6));
    }

    private static void boundToDirection(Check check) {
        check.title("Promise 14, throws if there is no such direction");
        for (int direction = 0; direction <= 5; direction++) {
            AssemblyPlanner planner = Products.loose(0, 0);
            int way = direction;
            planner.hinder(0, way, 1, true);
            planner.hinder(1, way, 0, true);
            for (int asked = 0; asked <= 5; asked++) {
                int other = asked;
                boolean bound = asked / 2 == direction / 2;
                check.due(bound ? 3 : 1, () -> planner.boundTo(0, other));
            }
        }
        Edges.refusedDirections(check, (with, direction) -> with.boundTo(0, direction));
        Edges.refusedDirections(check, (with, direction) -> with.boundTo(2, direction));
        Edges.refusedWith(check, Check.INDEX, Starts::nothing, Edges.outside(5),
                (with, direction) -> with.boundTo(0, direction));
    }

    private static void boundToNoneAndAll(Check check) {
        check.title("Promise 14, the part itself in it: bound to none, though all move with it, or to all");
        AssemblyPlanner planner = Products.loose(0, 0, 0, 0, 0, 0, 0, 0);
        for (int part = 7; part > 0; part--) {
            planner.hinder(part, 4, part - 1, true);
        }
        for (int part = 0; part < 8; part++) {
            int at = part;
            check.due(1 << at, () -> planner.boundTo(at, 4));
            check.due(1 << at, () -> planner.boundTo(at, 5));
        }
        planner.hinder(0, 4, 7, true);
        for (int part = 0; part < 8; part++) {
            int at = part;
            check.due(255, () -> planner.boundTo(at, 4));
            check.due(255, () -> planner.boundTo(at, 5));
            check.due(1 << at, () -> planner.boundTo(at, 0));
        }
        check.due(1, () -> Products.loose(0).boundTo(0, 0));
    }

    private static void groupsDirection(Check check) {
        check.title("Promise 15, throws if there is no such direction");
        for (int direction = 0; direction <= 5; direction++) {
            AssemblyPlanner planner = Products.loose(0, 0);
            planner.hinder(0, direction, 1, true);
            planner.hinder(1, direction, 0, true);
            for (int asked = 0; asked <= 5; asked++) {
                int other = asked;
                boolean bound = asked / 2 == direction / 2;
                check.due(bound ? 1 : 2, () -> planner.groups(other));
            }
        }
        Edges.refusedDirections(check, AssemblyPlanner::groups);
        Edges.refusedWith(check, Check.INDEX, Starts::nothing, Edges.outside(5), AssemblyPlanner::groups);
        Edges.refusedWith(check, Check.INDEX, Starts::one, Edges.outside(5), AssemblyPlanner::groups);
    }

    private static void groupsFromNoneToEight(Check check) {
        check.title("Promise 15, parts that are bound to no other one are groups of their own");
        for (int direction = 0; direction <= 5; direction++) {
            int way = direction;
            check.due(0, () -> new AssemblyPlanner().groups(way));
            check.due(1, () -> Products.loose(0).groups(way));
            check.due(8, () -> Products.loose(0, 0, 0, 0, 0, 0, 0, 0).groups(way));
        }
        check.title("Promise 15, from as many groups as parts to a single one");
        AssemblyPlanner planner = Products.loose(0, 0, 0, 0, 0, 0, 0, 0);
        for (int part = 7; part > 0; part--) {
            planner.hinder(part, 1, part - 1, true);
            check.due(8, () -> planner.groups(1));
        }
        for (int part = 1; part < 8; part++) {
            planner.hinder(0, 1, part, true);
            int left = 8 - part;
            check.due(left, () -> planner.groups(1));
            check.due(left, () -> planner.groups(0));
        }
        check.due(8, () -> planner.groups(2));
    }

    private static void splitsSet(Check check) {
        check.title("Promise 16, throws if set has no parts, or parts that there are not");
        Edges.refusedSets(check, AssemblyPlanner::splits);
        for (int parts = 1; parts <= 8; parts++) {
            AssemblyPlanner planner = Products.row(new int[parts]);
            int all = (1 << parts) - 1;
            int count = parts - 1;
            check.due(count, () -> planner.splits(all));
            check.due(Check.ARGUMENT, () -> planner.splits(all + 1));
            check.due(Check.ARGUMENT, () -> planner.splits(0));
        }
    }

    private static void splitsOfOneAndApart(Check check) {
        check.title("Promise 16, 0 if the set is not connected or has one part");
        AssemblyPlanner clump = Products.clump(0, 0, 0, 0, 0, 0, 0, 0);
        for (int part = 0; part < 8; part++) {
            int one = 1 << part;
            check.due(0, () -> clump.splits(one));
        }
        AssemblyPlanner row = Products.row(0, 0, 0, 0, 0, 0, 0, 0);
        check.due(0, () -> row.splits(5));
        check.due(0, () -> row.splits(1 + 128));
        check.due(0, () -> row.splits(255 - 16));
        // Two connected halves would be a split, but the set is not connected.
        check.due(0, () -> row.splits(3 + 192));
        check.due(1, () -> row.splits(3));
        check.due(1, () -> row.splits(192));
        AssemblyPlanner loose = Products.loose(0, 0);
        check.due(0, () -> loose.splits(3));
    }

    private static void splitsConnectedHalves(Check check) {
        check.title("Promise 16, both sets of a split are connected");
        AssemblyPlanner star = Products.loose(0, 0, 0, 0);
        for (int part = 0; part < 3; part++) {
            star.contact(part, 3, true);
        }
        check.due(3, () -> star.splits(15));
        AssemblyPlanner other = Products.loose(0, 0, 0, 0);
        for (int part = 1; part < 4; part++) {
            other.contact(part, 0, true);
        }
        check.due(3, () -> other.splits(15));
    }

    private static void splitsCountedOnce(Check check) {
        check.title("Promise 16, it makes no difference which set is the first one");
        int[] due = {0, 1, 3, 7, 15, 31, 63, 127};
        for (int parts = 1; parts <= 8; parts++) {
            AssemblyPlanner planner = Products.clump(new int[parts]);
            int all = (1 << parts) - 1;
            int count = due[parts - 1];
            check.due(count, () -> planner.splits(all));
        }
        AssemblyPlanner oneWay = Products.row(0, 0);
        Products.lock(oneWay, 0, 1);
        oneWay.hinder(1, 4, 0, false);
        check.due(1, () -> oneWay.splits(3));
    }

    private static void splitsWithOneDirection(Check check) {
        check.title("Promise 16, there is a direction in which no part of the one set is hindered");
        for (int direction = 0; direction <= 5; direction++) {
            AssemblyPlanner planner = Products.row(0, 0);
            Products.lock(planner, 0, 1);
            check.due(0, () -> planner.splits(3));
            planner.hinder(0, direction, 1, false);
            check.due(1, () -> planner.splits(3));
        }
        // A part of the one set is locked by the last part of the other one.
        AssemblyPlanner far = Products.row(0, 0, 0, 0);
        Products.lock(far, 0, 3);
        check.due(0, () -> far.splits(15));
        check.due(2, () -> far.splits(7));
        check.due(2, () -> far.splits(14));
        // Each part has a direction of its own in which it is free, but there is none for both.
        AssemblyPlanner crossed = Products.clump(0, 0, 0);
        for (int direction = 0; direction <= 5; direction++) {
            crossed.hinder(direction / 2 == 0 ? 1 : 0, direction, 2, true);
        }
        check.due(2, () -> crossed.splits(7));
    }

    private static void waysWithoutParts(Check check) {
        check.title("Promise 17, throws if there are no parts");
        Edges.refused(check, Check.STATE, Starts::nothing, AssemblyPlanner::ways);
        Edges.refused(check, Check.STATE, Starts::nothingSteady, AssemblyPlanner::ways);
        AssemblyPlanner planner = new AssemblyPlanner();
        check.due(Check.STATE, planner::ways);
        planner.addPart(0);
        check.due(1, planner::ways);
    }

    private static void waysOfOneAndApart(Check check) {
        check.title("Promise 17, a set of one part comes apart in one way; 0 if it is not connected");
        check.due(1, () -> Products.loose(3).ways());
        check.due(0, () -> Products.loose(0, 0).ways());
        check.due(1, () -> Products.row(0, 0).ways());
        AssemblyPlanner planner = Products.clump(0, 0, 0, 0, 0, 0, 0, 0);
        check.due(135135, planner::ways);
        for (int part = 0; part < 7; part++) {
            planner.contact(7, part, false);
        }
        check.due(0, planner::ways);
        planner.contact(7, 0, true);
        check.due(false, () -> planner.ways() == 0);
        AssemblyPlanner unsteady = Products.row(0, 0, 0);
        unsteady.askSteady(true);
        check.due(2, unsteady::ways);
    }

    private static void waysWithoutSplits(Check check) {
        check.title("Promise 17, for each split a way of the one set and a way of the other");
        AssemblyPlanner planner = Products.row(0, 0, 0, 0);
        check.due(5, planner::ways);
        Products.lock(planner, 0, 1);
        // Two splits are left, but parts 0 and 1 stay together in both.
        check.due(2, () -> planner.splits(15));
        check.due(0, planner::ways);
        AssemblyPlanner last = Products.row(0, 0, 0, 0);
        Products.lock(last, 2, 3);
        check.due(2, () -> last.splits(15));
        check.due(0, last::ways);
        AssemblyPlanner all = Products.clump(0, 0, 0, 0, 0, 0, 0, 0);
        Products.lock(all, 7, 6);
        check.due(0, all::ways);
        AssemblyPlanner ring = Products.row(0, 0, 0, 0);
        ring.contact(0, 3, true);
        // Two of six splits make two pairs, four make a part and a row of three.
        check.due(6, () -> ring.splits(15));
        check.due(2 + 4 * 2, ring::ways);
    }

    private static void leastDepthWithoutParts(Check check) {
        check.title("Promise 18, throws if there are no parts");
        Edges.refused(check, Check.STATE, Starts::nothing, AssemblyPlanner::leastDepth);
        Edges.refused(check, Check.STATE, Starts::nothingSteady, AssemblyPlanner::leastDepth);
        AssemblyPlanner planner = new AssemblyPlanner();
        check.due(Check.STATE, planner::leastDepth);
        planner.addPart(0);
        check.due(0, planner::leastDepth);
    }

    private static void leastDepthOfOneAndApart(Check check) {
        check.title("Promise 18, 0 for one part; NONE if there is no way");
        check.due(0, () -> Products.loose(3).leastDepth());
        check.due(NONE, () -> Products.loose(0, 0).leastDepth());
        check.due(NONE, () -> Products.loose(0, 0, 0, 0, 0, 0, 0, 0).leastDepth());
        AssemblyPlanner first = Products.row(0, 0, 0, 0);
        Products.lock(first, 0, 1);
        check.due(NONE, first::leastDepth);
        AssemblyPlanner last = Products.row(0, 0, 0, 0);
        Products.lock(last, 2, 3);
        check.due(NONE, last::leastDepth);
        AssemblyPlanner two = Products.row(0, 0);
        Products.lock(two, 0, 1);
        check.due(NONE, two::leastDepth);
        two.hinder(1, 0, 0, false);
        check.due(1, two::leastDepth);
    }

    private static void leastDepthFromNoneToSeven(Check check) {
        check.title("Promise 18, 1 more than the greater depth of both, the least of all ways");
        int[] row = {0, 1, 2, 2, 3, 3, 3, 3};
        for (int parts = 1; parts <= 8; parts++) {
            AssemblyPlanner planner = Products.row(new int[parts]);
            int depth = row[parts - 1];
            check.due(depth, planner::leastDepth);
        }
        for (int parts = 2; parts <= 8; parts++) {
            AssemblyPlanner star = Products.loose(new int[parts]);
            for (int part = 1; part < parts; part++) {
                star.contact(0, part, true);
            }
            int depth = parts - 1;
            check.due(depth, star::leastDepth);
        }
    }
}
