/** The boundary cases that the document's terms name ahead of the promises, a function for each sentence. */
final class TermEdgeTests {
    static void run(Check check) {
        constants(check);
        mostParts(check);
        everyTool(check);
        oppositeDirections(check);
        contactsAtFirst(check);
        hindrancesAtFirst(check);
        hinderedBothWays(check);
        setsAreNumbers(check);
        baseAtFirst(check);
        baseIsSupported(check);
        supportedThroughTheSet(check);
        steadinessAtFirst(check);
        emptySetIsSound(check);
        movesWithAllThese(check);
        boundByEachOther(check);
        eachPartInOneOfBoth(check);
        greaterDepthOfBoth(check);
        toolJustAhead(check);
        lesserPartWhereTheyDiffer(check);
        throwsChangeNothing(check);
        lastCall(check);
    }

    private static void constants(Check check) {
        check.title("Terms, NONE = -1; 4 is UP and 5 is DOWN");
        check.due(-1, () -> AssemblyPlanner.NONE);
        check.due(4, () -> AssemblyPlanner.UP);
        check.due(5, () -> AssemblyPlanner.DOWN);
    }

    private static void mostParts(Check check) {
        check.title("Terms, at most 8 parts, numbered from 0 as they are added");
        AssemblyPlanner planner = new AssemblyPlanner();
        for (int part = 0; part < 8; part++) {
            int number = part;
            check.due(Check.INDEX, () -> planner.setBase(number));
            check.due(number, () -> planner.addPart(0));
            check.due(true, () -> planner.isConnected(1 << number));
        }
        check.due(Check.STATE, () -> planner.addPart(0));
        check.due(Check.INDEX, () -> planner.setBase(8));
        check.due(Check.ARGUMENT, () -> planner.isConnected(256));
    }

    private static void everyTool(Check check) {
        check.title("Terms, each part needs a tool, 0 to 3");
        AssemblyPlanner planner = Products.clump(3, 2, 1, 0);
        check.due(3, planner::fewestChanges);
        check.due(3, () -> planner.setTool(0, 0));
        check.due(2, () -> planner.setTool(1, 3));
        check.due(1, () -> planner.setTool(2, 3));
        check.due(0, () -> planner.setTool(3, 3));
        check.due(1, planner::fewestChanges);
    }

    private static void oppositeDirections(Check check) {
        check.title("Terms, 2 * k and 2 * k + 1 are opposite, and no others");
        int[] opposite = {1, 0, 3, 2, 5, 4};
        for (int direction = 0; direction <= 5; direction++) {
            AssemblyPlanner planner = Products.loose(0, 0);
            planner.hinder(0, direction, 1, true);
            int here = 63 - (1 << direction);
            int there = 63 - (1 << opposite[direction]);
            check.due(here, () -> planner.free(3, 0));
            check.due(there, () -> planner.free(3, 1));
        }
    }

    private static void contactsAtFirst(Check check) {
        check.title("Terms, two parts are in contact or not, at first not");
        AssemblyPlanner planner = Products.loose(0, 0, 0, 0, 0, 0, 0, 0);
        for (int part = 1; part < 8; part++) {
            for (int other = 0; other < part; other++) {
                int one = part;
                int two = other;
                check.due(false, () -> planner.isConnected((1 << one) + (1 << two)));
                check.due(0, () -> planner.contact(one, two, false));
                check.due(0, () -> planner.contact(two, one, false));
            }
        }
        // A part that is added later meets none either, though the others are all in contact.
        AssemblyPlanner late = Products.clump(0, 0, 0);
        late.addPart(0);
        check.due(false, () -> late.isConnected(15));
        check.due(1, () -> late.contact(3, 0, true));
        check.due(true, () -> late.isConnected(15));
    }

    private static void hindrancesAtFirst(Check check) {
        check.title("Terms, a part is hindered in a direction by other parts, at first by none");
        AssemblyPlanner planner = Products.loose(0, 0, 0, 0, 0, 0, 0, 0);
        for (int part = 0; part < 8; part++) {
            int at = part;
            check.due(63, () -> planner.free(255, at));
            for (int direction = 0; direction <= 5; direction++) {
                int way = direction;
                check.due(0, () -> planner.hinder(at, way, at == 0 ? 7 : 0, false));
            }
        }
        AssemblyPlanner late = Products.loose(0, 0, 0);
        Products.lock(late, 0, 1);
        Products.lock(late, 1, 2);
        late.addPart(0);
        check.due(63, () -> late.free(15, 3));
    }

    private static void hinderedBothWays(Check check) {
        check.title("Terms, if a part is hindered by another one, that one is hindered in the opposite direction");
        int[] opposite = {1, 0, 3, 2, 5, 4};
        for (int direction = 0; direction <= 5; direction++) {
            int way = direction;
            int back = opposite[direction];
            AssemblyPlanner planner = Products.loose(0, 0, 0, 0, 0, 0, 0, 0);
            check.due(1, () -> planner.hinder(7, way, 2, true));
            check.due(132, () -> planner.movesWith(7, way));
            check.due(132, () -> planner.movesWith(2, back));
            check.due(4, () -> planner.movesWith(2, way));
            check.due(128, () -> planner.movesWith(7, back));
            check.due(1, () -> planner.hinder(2, back, 7, true));
            check.due(0, () -> planner.hinder(2, back, 7, false));
            check.due(63, () -> planner.free(132, 7));
            check.due(63, () -> planner.free(132, 2));
        }
    }

    private static void setsAreNumbers(Check check) {
        check.title("Terms, part p counts 2 to the power of p");
        AssemblyPlanner planner = Products.loose(0, 0, 0, 0, 0, 0, 0, 0);
        for (int part = 0; part < 8; part++) {
            int at = part;
            int power = new int[] {1, 2, 4, 8, 16, 32, 64, 128}[part];
            check.due(63, () -> planner.free(power, at));
            check.due(power, () -> planner.movesWith(at, 0));
            check.due(power, () -> planner.boundTo(at, 0));
            for (int other = 0; other < 8; other++) {
                int asked = other;
                if (other != part) {
                    check.due(Check.ARGUMENT, () -> planner.free(power, asked));
                }
            }
        }
    }

    private static void baseAtFirst(Check check) {
        check.title("Terms, one part is the base, at first part 0");
        AssemblyPlanner planner = new AssemblyPlanner();
        for (int part = 0; part < 8; part++) {
            planner.addPart(0);
            int newest = 1 << part;
            boolean is = part == 0;
            check.due(true, () -> planner.isSteady(1));
            check.due(is, () -> planner.isSteady(newest));
        }
        check.due(0, () -> planner.setBase(5));
        check.due(false, () -> planner.isSteady(1));
        check.due(true, () -> planner.isSteady(32));
    }

    private static void baseIsSupported(Check check) {
        check.title("Terms, a part is supported if it is the base, whatever hinders it");
        AssemblyPlanner planner = Products.loose(0, 0);
        Products.lock(planner, 0, 1);
        check.due(true, () -> planner.isSteady(1));
        check.due(true, () -> planner.isSteady(3));
        planner.hinder(1, 5, 0, false);
        check.due(false, () -> planner.isSteady(3));
        check.due(true, () -> planner.isSteady(1));
    }

    private static void supportedThroughTheSet(Check check) {
        check.title("Terms, a supported part of the set hinders it DOWN, one standing on the other, up to 8");
        AssemblyPlanner planner = Products.loose(0, 0, 0, 0, 0, 0, 0, 0);
        planner.setBase(3);
        int[] path = {3, 6, 0, 5, 7, 1, 4, 2};
        int set = 0;
        for (int at = 0; at < path.length; at++) {
            set |= 1 << path[at];
            int now = set;
            if (at > 0) {
                check.due(false, () -> planner.isSteady(now));
                planner.hinder(path[at], 5, path[at - 1], true);
            }
            check.due(true, () -> planner.isSteady(now));
        }
        for (int at = 0; at < path.length - 1; at++) {
            int without = 255 - (1 << path[at]);
            check.due(false, () -> planner.isSteady(without));
        }
        check.due(true, () -> planner.isSteady(255 - 4));
    }

    private static void steadinessAtFirst(Check check) {
        check.title("Terms, as long as steadiness is asked for, at first it is not");
        AssemblyPlanner planner = Products.row(0, 0);
        check.due(2, planner::orders);
        check.due(true, () -> planner.canTake(2, 1));
        planner.askSteady(true);
        check.due(0, planner::orders);
        check.due(false, () -> planner.canTake(2, 1));
        planner.askSteady(false);
        check.due(2, planner::orders);
        check.due(true, () -> planner.canTake(2, 1));
        // It is asked for ahead of the first part already.
        AssemblyPlanner early = Starts.nothingSteady();
        early.addPart(0);
        early.addPart(0);
        check.due(true, () -> early.canTake(1, 0));
        check.due(false, () -> early.canTake(2, 1));
    }

    private static void emptySetIsSound(Check check) {
        check.title("Terms, a set is sound if it is empty, also when steadiness is asked for");
        AssemblyPlanner planner = Products.loose(0);
        check.due(true, () -> planner.canTake(1, 0));
        planner.askSteady(true);
        check.due(true, () -> planner.canTake(1, 0));
        check.due(1, planner::orders);
        check.due(1, planner::begin);
    }

    private static void movesWithAllThese(Check check) {
        check.title("Terms, all parts that hinder it, all that hinder these, and so on: each of the product once");
        AssemblyPlanner planner = Products.loose(0, 0, 0, 0, 0, 0, 0, 0);
        int[] path = {3, 6, 0, 5, 7, 1, 4, 2};
        int set = 1 << path[0];
        for (int at = 1; at < path.length; at++) {
            set |= 1 << path[at];
            int now = set;
            int last = path[at];
            planner.hinder(path[at - 1], 2, last, true);
            check.due(now, () -> planner.movesWith(3, 2));
            check.due(now, () -> planner.movesWith(last, 3));
        }
        planner.hinder(0, 2, 5, false);
        check.due(8 + 64 + 1, () -> planner.movesWith(3, 2));
        check.due(254 - 8 - 64, () -> planner.movesWith(2, 3));
    }

    private static void boundByEachOther(Check check) {
        check.title("Terms, two parts are bound if each has to move with the other one");
        AssemblyPlanner planner = Products.loose(0, 0, 0);
        planner.hinder(0, 4, 1, true);
        check.due(1, () -> planner.boundTo(0, 4));
        check.due(2, () -> planner.boundTo(1, 4));
        // In the opposite direction part 1 is hindered by part 0 already: that alone does not bind them.
        check.due(1, () -> planner.boundTo(0, 5));
        planner.hinder(1, 4, 2, true);
        planner.hinder(2, 4, 0, true);
        check.due(7, () -> planner.boundTo(0, 4));
        check.due(7, () -> planner.boundTo(2, 5));
        check.due(1, () -> planner.groups(4));
        planner.hinder(2, 4, 0, false);
        check.due(4, () -> planner.boundTo(2, 4));
        check.due(3, () -> planner.groups(4));
    }

    private static void eachPartInOneOfBoth(Check check) {
        check.title("Terms, a split's sets have all its parts, each in one of both, none of them empty");
        check.due(1, () -> Products.row(0, 0).splits(3));
        check.due(0, () -> Products.loose(0).splits(1));
        check.due(2, () -> Products.row(0, 0, 0).splits(7));
        check.due(3, () -> Products.clump(0, 0, 0).splits(7));
        check.due(1, () -> Products.clump(0, 0, 0).splits(6));
    }

    private static void greaterDepthOfBoth(Check check) {
        check.title("Terms, 1 more than the greater depth of both");
        check.due(3, () -> Products.row(0, 0, 0, 0, 0).leastDepth());
        // Neither the halves nor a single part can leave first.
        AssemblyPlanner uneven = Products.row(0, 0, 0, 0);
        Products.lock(uneven, 0, 2);
        Products.lock(uneven, 1, 3);
        check.due(0, uneven::ways);
        check.due(AssemblyPlanner.NONE, uneven::leastDepth);
        // The halves can't leave one another, so a part at an end has to leave first.
        AssemblyPlanner endsFirst = Products.row(0, 0, 0, 0);
        Products.lock(endsFirst, 1, 2);
        endsFirst.hinder(1, 0, 2, false);
        endsFirst.hinder(0, 0, 3, true);
        check.due(2, () -> endsFirst.splits(15));
        check.due(3, endsFirst::leastDepth);
    }

    private static void toolJustAhead(Check check) {
        check.title("Terms, how many parts, but for the first one, need another tool than the part just ahead");
        AssemblyPlanner planner = Products.tower(1, 2, 1, 1, 2);
        planner.askSteady(true);
        check.due(3, planner::fewestChanges);
        check.due(3, planner::fewestByListing);
        check.due(0, () -> Products.loose(3).fewestChanges());
        check.due(0, () -> Products.loose(3).fewestByListing());
    }

    private static void lesserPartWhereTheyDiffer(Check check) {
        check.title("Terms, the one with the lesser part at the first place at which they differ");
        // All orders are best: 1 0 2 differs at the first place, 0 2 1 at the second one.
        AssemblyPlanner planner = Products.clump(0, 0, 0);
        check.due(0, () -> planner.orderAt(0));
        check.due(1, () -> planner.orderAt(1));
        check.due(2, () -> planner.orderAt(2));
        // 0 2 1, 1 0 2 and two more are best now: the first place decides, not the last one.
        planner.setTool(0, 1);
        planner.setTool(1, 2);
        planner.setTool(2, 1);
        check.due(0, () -> planner.orderAt(0));
        check.due(2, () -> planner.orderAt(1));
        check.due(1, () -> planner.orderAt(2));
    }

    private static void throwsChangeNothing(Check check) {
        check.title("Exceptions, a call that throws changes nothing: steadiness and base");
        Edges.refused(check, Check.ARGUMENT, Starts::nothingSteady, planner -> planner.addPart(4));
        Edges.refused(check, Check.INDEX, Starts::nothingSteady, planner -> planner.setBase(0));
        Edges.refused(check, Check.STATE, Starts::nothingSteady, AssemblyPlanner::begin);
        Edges.refused(check, Check.INDEX, Starts::three, planner -> planner.setBase(3));
        Edges.refused(check, Check.INDEX, Starts::eight, planner -> planner.setBase(8));
    }

    private static void lastCall(Check check) {
        check.title("What it is, an object is used for at most 512 calls: the last one answers too");
        AssemblyPlanner planner = Products.loose(0);
        planner.begin();
        for (int call = 3; call < 512; call++) {
            check.due(0, call % 2 == 1 ? planner::step : planner::stepBack);
        }
        check.due(5 + 255 * 2 + 254 * 2, planner::clock);
    }
}
