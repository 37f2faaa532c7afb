/** The boundary cases of promises 9 to 12, a function for each sentence. */
final class SetEdgeTests {
    static void run(Check check) {
        setsWithoutParts(check);
        isConnectedSet(check);
        isConnectedOfOneAndAll(check);
        isConnectedWithinTheSet(check);
        isSteadySet(check);
        isSteadyOfOneAndAll(check);
        isSteadyWithinTheSet(check);
        isSteadyOnlyFromTheBase(check);
        freePart(check);
        freeSet(check);
        freePartAheadOfSet(check);
        freePartNotInSet(check);
        freeSum(check);
        canTakePart(check);
        canTakeSet(check);
        canTakePartAheadOfSet(check);
        canTakePartNotInSet(check);
        canTakeOfOneAndAll(check);
        canTakeOfUnsoundSets(check);
        canTakeWithOneDirection(check);
        canTakeLeavingUnsound(check);
        canTakeSteady(check);
    }

    private static void setsWithoutParts(Check check) {
        check.title("Promises 9 to 12, a set has no parts");
        for (Edges.Start start : new Edges.Start[] {Starts::one, Starts::three, Starts::threeIn, Starts::eight}) {
            Edges.refused(check, Check.ARGUMENT, start, planner -> planner.isConnected(0));
            Edges.refused(check, Check.ARGUMENT, start, planner -> planner.isSteady(0));
            Edges.refused(check, Check.ARGUMENT, start, planner -> planner.free(0, 0));
            Edges.refused(check, Check.ARGUMENT, start, planner -> planner.canTake(0, 0));
        }
    }

    private static void isConnectedSet(Check check) {
        check.title("Promise 9, throws if set has no parts, or parts that there are not");
        Edges.refusedSets(check, AssemblyPlanner::isConnected);
        for (int parts = 1; parts <= 8; parts++) {
            AssemblyPlanner planner = Products.row(new int[parts]);
            int all = (1 << parts) - 1;
            check.due(true, () -> planner.isConnected(all));
            check.due(Check.ARGUMENT, () -> planner.isConnected(all + 1));
            check.due(Check.ARGUMENT, () -> planner.isConnected(0));
        }
    }

    private static void isConnectedOfOneAndAll(Check check) {
        check.title("Promise 9, a set of one part, of two and of all");
        AssemblyPlanner loose = Products.loose(0, 0, 0, 0, 0, 0, 0, 0);
        for (int part = 0; part < 8; part++) {
            int one = 1 << part;
            check.due(true, () -> loose.isConnected(one));
        }
        check.due(false, () -> loose.isConnected(3));
        check.due(false, () -> loose.isConnected(1 + 128));
        check.due(false, () -> loose.isConnected(255));
        loose.contact(7, 0, true);
        check.due(true, () -> loose.isConnected(1 + 128));
        check.due(false, () -> loose.isConnected(3));
        check.due(true, () -> Products.clump(0, 0, 0, 0, 0, 0, 0, 0).isConnected(255));
    }

    private static void isConnectedWithinTheSet(Check check) {
        check.title("Promise 9, by contacts between parts of the set, from each to each");
        AssemblyPlanner star = Products.loose(0, 0, 0, 0, 0, 0, 0, 0);
        for (int part = 0; part < 7; part++) {
            star.contact(part, 7, true);
        }
        check.due(true, () -> star.isConnected(255));
        check.due(false, () -> star.isConnected(127));
        check.due(true, () -> star.isConnected(1 + 64 + 128));
        check.due(false, () -> star.isConnected(1 + 64));
        // Two halves that are connected each, but not with one another.
        AssemblyPlanner halves = Products.row(0, 0, 0, 0, 0, 0, 0, 0);
        halves.contact(3, 4, false);
        check.due(true, () -> halves.isConnected(15));
        check.due(true, () -> halves.isConnected(240));
        check.due(false, () -> halves.isConnected(255));
        halves.contact(7, 0, true);
        check.due(true, () -> halves.isConnected(255));
    }

    private static void isSteadySet(Check check) {
        check.title("Promise 10, throws if set has no parts, or parts that there are not");
        Edges.refusedSets(check, AssemblyPlanner::isSteady);
        for (int parts = 1; parts <= 8; parts++) {
            AssemblyPlanner planner = Products.tower(new int[parts]);
            int all = (1 << parts) - 1;
            check.due(true, () -> planner.isSteady(all));
            check.due(Check.ARGUMENT, () -> planner.isSteady(all + 1));
            check.due(Check.ARGUMENT, () -> planner.isSteady(0));
        }
    }

    private static void isSteadyOfOneAndAll(Check check) {
        check.title("Promise 10, a set of one part, steady only if it is the base");
        AssemblyPlanner planner = Products.tower(0, 0, 0, 0, 0, 0, 0, 0);
        for (int base = 0; base < 8; base++) {
            planner.setBase(base);
            for (int part = 0; part < 8; part++) {
                int one = 1 << part;
                boolean is = part == base;
                check.due(is, () -> planner.isSteady(one));
            }
        }
        check.due(false, () -> planner.isSteady(255));
        planner.setBase(0);
        check.due(true, () -> planner.isSteady(255));
    }

    private static void isSteadyWithinTheSet(Check check) {
        check.title("Promise 10, supported by parts of the set, without asking for steadiness or contacts");
        AssemblyPlanner planner = Products.loose(0, 0, 0);
        planner.hinder(1, 5, 0, true);
        planner.hinder(2, 5, 1, true);
        check.due(true, () -> planner.isSteady(7));
        // Part 2 stands on part 1, which is not in the set; then the base is not in it.
        check.due(false, () -> planner.isSteady(5));
        check.due(false, () -> planner.isSteady(6));
        planner.hinder(2, 5, 0, true);
        check.due(true, () -> planner.isSteady(5));
        check.due(true, () -> planner.isSteady(7));
        planner.hinder(1, 5, 0, false);
        check.due(false, () -> planner.isSteady(7));
    }

    private static void isSteadyOnlyFromTheBase(Check check) {
        check.title("Promise 10, hindered DOWN by a supported part, and in no other direction");
        for (int direction = 0; direction <= 5; direction++) {
            AssemblyPlanner planner = Products.loose(0, 0);
            planner.hinder(1, direction, 0, true);
            boolean is = direction == 5;
            check.due(is, () -> planner.isSteady(3));
        }
        // Parts that stand on one another alone are not supported; one that the base stands on is not either.
        AssemblyPlanner ring = Products.loose(0, 0, 0);
        ring.hinder(1, 5, 2, true);
        ring.hinder(2, 5, 1, true);
        check.due(false, () -> ring.isSteady(7));
        ring.hinder(0, 5, 1, true);
        check.due(false, () -> ring.isSteady(7));
        ring.hinder(2, 5, 0, true);
        check.due(true, () -> ring.isSteady(7));
    }

    private static void freePart(Check check) {
        check.title("Promise 11, throws if there is no such part");
        AssemblyPlanner planner = Products.loose(0, 0, 0, 0, 0, 0, 0, 0);
        check.due(63, () -> planner.free(255, 0));
        check.due(63, () -> planner.free(255, 7));
        Edges.refusedParts(check, (with, part) -> with.free(1, part));
        Edges.refusedWith(check, Check.INDEX, Starts::three, Edges.outside(2), (with, part) -> with.free(7, part));
        Edges.refusedWith(check, Check.INDEX, Starts::eight, Edges.outside(7), (with, part) -> with.free(255, part));
    }

    private static void freeSet(Check check) {
        check.title("Promise 11, throws if set has no parts, or parts that there are not");
        check.due(63, () -> Products.loose(0).free(1, 0));
        Edges.refusedSetsOfParts(check, (planner, set) -> planner.free(set, 0));
        Edges.refusedWith(check, Check.ARGUMENT, Starts::three, Edges.noSets(3), (with, set) -> with.free(set, 2));
        Edges.refusedWith(check, Check.ARGUMENT, Starts::eight, Edges.noSets(8), (with, set) -> with.free(set, 7));
    }

    private static void freePartAheadOfSet(Check check) {
        check.title("Promise 11, the part decides ahead of the set");
        Edges.refusedParts(check, (planner, part) -> planner.free(0, part));
        Edges.refusedParts(check, (planner, part) -> planner.free(256, part));
        Edges.refusedParts(check, (planner, part) -> planner.free(-1, part));
        Edges.refusedParts(check, (planner, part) -> planner.free(Integer.MIN_VALUE, part));
        Edges.refused(check, Check.INDEX, Starts::three, planner -> planner.free(8, 3));
    }

    private static void freePartNotInSet(Check check) {
        check.title("Promise 11, throws if set has not this part");
        for (int part = 0; part < 8; part++) {
            int at = part;
            Edges.refused(check, Check.ARGUMENT, Starts::eight, planner -> planner.free(255 - (1 << at), at));
            Edges.refused(check, Check.ARGUMENT, Starts::eight, planner -> planner.free(at == 0 ? 2 : 1, at));
        }
    }

    private static void freeSum(Check check) {
        check.title("Promise 11, the sum of 2 to the power of each direction, from 0 to 63");
        AssemblyPlanner planner = Products.loose(0, 0, 0);
        int due = 63;
        for (int direction = 0; direction <= 5; direction++) {
            int sum = due;
            check.due(sum, () -> planner.free(3, 0));
            planner.hinder(0, direction, 1, true);
            due -= 1 << direction;
        }
        check.due(0, () -> planner.free(3, 0));
        check.due(0, () -> planner.free(7, 0));
        check.due(0, () -> planner.free(3, 1));
        check.title("Promise 11, no other part of the set hinders it");
        check.due(63, () -> planner.free(1, 0));
        check.due(63, () -> planner.free(5, 0));
        check.due(63, () -> planner.free(7, 2));
    }

    private static void canTakePart(Check check) {
        check.title("Promise 12, throws if there is no such part");
        AssemblyPlanner planner = Products.clump(0, 0, 0, 0, 0, 0, 0, 0);
        check.due(true, () -> planner.canTake(255, 0));
        check.due(true, () -> planner.canTake(255, 7));
        Edges.refusedParts(check, (with, part) -> with.canTake(1, part));
        Edges.refusedWith(check, Check.INDEX, Starts::three, Edges.outside(2), (with, part) -> with.canTake(7, part));
        Edges.refusedWith(check, Check.INDEX, Starts::eight, Edges.outside(7),
                (with, part) -> with.canTake(255, part));
    }

    private static void canTakeSet(Check check) {
        check.title("Promise 12, throws if set has no parts, or parts that there are not");
        Edges.refusedSetsOfParts(check, (planner, set) -> planner.canTake(set, 0));
        Edges.refusedWith(check, Check.ARGUMENT, Starts::three, Edges.noSets(3), (with, set) -> with.canTake(set, 2));
        Edges.refusedWith(check, Check.ARGUMENT, Starts::eight, Edges.noSets(8), (with, set) -> with.canTake(set, 7));
    }

    private static void canTakePartAheadOfSet(Check check) {
        check.title("Promise 12, the part decides ahead of the set");
        Edges.refusedParts(check, (planner, part) -> planner.canTake(0, part));
        Edges.refusedParts(check, (planner, part) -> planner.canTake(256, part));
        Edges.refusedParts(check, (planner, part) -> planner.canTake(-1, part));
        Edges.refusedParts(check, (planner, part) -> planner.canTake(Integer.MIN_VALUE, part));
        Edges.refused(check, Check.INDEX, Starts::three, planner -> planner.canTake(8, 3));
    }

    private static void canTakePartNotInSet(Check check) {
        check.title("Promise 12, throws if set has not this part, sound or not");
        for (int part = 0; part < 8; part++) {
            int at = part;
            Edges.refused(check, Check.ARGUMENT, Starts::eight, planner -> planner.canTake(255 - (1 << at), at));
            Edges.refused(check, Check.ARGUMENT, Starts::eight, planner -> planner.canTake(at == 0 ? 2 : 1, at));
        }
    }

    private static void canTakeOfOneAndAll(Check check) {
        check.title("Promise 12, the last part of a set: the empty set is sound");
        AssemblyPlanner loose = Products.loose(0, 0, 0, 0, 0, 0, 0, 0);
        for (int part = 0; part < 8; part++) {
            int at = part;
            check.due(true, () -> loose.canTake(1 << at, at));
        }
        Products.lock(loose, 0, 1);
        check.due(true, () -> loose.canTake(1, 0));
        loose.askSteady(true);
        check.due(true, () -> loose.canTake(1, 0));
        check.due(false, () -> loose.canTake(2, 1));
    }

    private static void canTakeOfUnsoundSets(Check check) {
        check.title("Promise 12, a set that is not sound itself");
        AssemblyPlanner planner = Products.loose(0, 0, 0);
        // Without part 0 or part 1 the set would be of one part, and sound.
        check.due(false, () -> planner.canTake(3, 0));
        check.due(false, () -> planner.canTake(3, 1));
        planner.contact(0, 1, true);
        check.due(true, () -> planner.canTake(3, 0));
        // Without part 2 the set would be connected.
        check.due(false, () -> planner.canTake(7, 2));
        planner.askSteady(true);
        // Without part 1 the set would be steady.
        check.due(false, () -> planner.canTake(3, 1));
        planner.hinder(1, 5, 0, true);
        check.due(true, () -> planner.canTake(3, 1));
    }

    private static void canTakeWithOneDirection(Check check) {
        check.title("Promise 12, free in some direction: in a single one, or in none");
        for (int direction = 0; direction <= 5; direction++) {
            AssemblyPlanner planner = Products.row(0, 0);
            Products.lock(planner, 0, 1);
            check.due(false, () -> planner.canTake(3, 0));
            check.due(false, () -> planner.canTake(3, 1));
            planner.hinder(0, direction, 1, false);
            int only = 1 << direction;
            check.due(only, () -> planner.free(3, 0));
            check.due(true, () -> planner.canTake(3, 0));
            check.due(true, () -> planner.canTake(3, 1));
        }
    }

    private static void canTakeLeavingUnsound(Check check) {
        check.title("Promise 12, the set without the part is not connected");
        AssemblyPlanner row = Products.row(0, 0, 0);
        check.due(false, () -> row.canTake(7, 1));
        check.due(true, () -> row.canTake(7, 0));
        check.due(true, () -> row.canTake(7, 2));
        check.due(true, () -> row.canTake(3, 1));
        row.contact(0, 2, true);
        check.due(true, () -> row.canTake(7, 1));
    }

    private static void canTakeSteady(Check check) {
        check.title("Promise 12, as long as steadiness is asked for, at first not");
        AssemblyPlanner planner = Products.row(0, 0, 0);
        check.due(false, () -> planner.isSteady(7));
        check.due(true, () -> planner.canTake(7, 2));
        planner.askSteady(true);
        check.due(false, () -> planner.canTake(7, 2));
        planner.hinder(1, 5, 0, true);
        planner.hinder(2, 5, 1, true);
        check.due(true, () -> planner.canTake(7, 2));
        // Without the base nothing is supported.
        check.due(false, () -> planner.canTake(7, 0));
        check.due(false, () -> planner.canTake(3, 0));
        check.due(true, () -> planner.canTake(1, 0));
        planner.askSteady(false);
        check.due(true, () -> planner.canTake(7, 0));
        check.due(true, () -> planner.canTake(6, 1));
    }
}
