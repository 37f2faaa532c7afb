/** Long runs of mixed calls, each answer compared with the reference's; the same runs every time. */
final class ReferenceTests {
    private static final int RUNS = 800;
    private static final int CALLS = 512;

    private final Check check;
    private final AssemblyPlanner planner = new AssemblyPlanner();
    private final Reference reference = new Reference();
    private final StringBuilder told = new StringBuilder();
    private final int most;
    private final int wrongInHundred;
    private long seed;
    private int calls;

    private ReferenceTests(Check check, int run) {
        this.check = check;
        seed = run * 7919L + 17;
        most = run % 20 == 0 ? 8 : run % 8;
        wrongInHundred = run % 3 == 0 ? 10 : 1;
    }

    static void run(Check check) {
        check.title("Runs against the reference");
        for (int run = 0; run < RUNS && check.failed() < 20; run++) {
            ReferenceTests test = new ReferenceTests(check, run);
            check.due("as the reference", test::wholeRun);
        }
    }

    private Object wholeRun() {
        buildProduct();
        while (calls < CALLS) {
            if (chance(25)) {
                tell();
            } else if (chance(35)) {
                execute();
            } else {
                ask();
            }
        }
        return told.length() == 0 ? "as the reference" : told.toString();
    }

    private void buildProduct() {
        int contacts = below(100);
        int hindrances = below(40);
        for (int part = 0; part < most; part++) {
            addPart();
        }
        for (int part = 0; part < most; part++) {
            for (int other = 0; other < part; other++) {
                if (chance(contacts)) {
                    contact(part, other, true);
                }
                for (int direction = 0; direction < 6; direction++) {
                    if (chance(hindrances)) {
                        hinder(part, direction, other, true);
                    }
                }
            }
        }
        if (chance(50)) {
            stand();
        }
    }

    /** Lets each part stand on one ahead, so that steady orders are possible. */
    private void stand() {
        for (int part = 1; part < most; part++) {
            int other = below(part);
            hinder(part, AssemblyPlanner.DOWN, other, true);
            contact(part, other, true);
        }
        askSteady(true);
    }

    private void tell() {
        switch (below(12)) {
            case 0: addPartIfRare(); break;
            case 1: case 2: setTool(); break;
            case 3: case 4: case 5: contact(part(), part(), chance(70)); break;
            case 6: case 7: case 8: hinder(part(), direction(), part(), chance(50)); break;
            case 9: setBase(); break;
            default: askSteady(chance(40)); break;
        }
    }

    private void addPartIfRare() {
        if (reference.parts() < most || reference.parts() == 8 || chance(5)) {
            addPart();
        } else {
            askSteady(false);
        }
    }

    /** A stretch of calls of the cell, so that executions come far before the product is told anew. */
    private void execute() {
        same("begin()", planner::begin, reference::begin);
        int length = below(30);
        for (int call = 0; call < length; call++) {
            executeOne();
        }
    }

    private void executeOne() {
        int part = part();
        int jams = chance(wrongInHundred) ? odd() : below(6);
        switch (below(14)) {
            case 0: case 1: same("stepBack()", planner::stepBack, reference::stepBack); break;
            case 2: same("setJams(" + part + ", " + jams + ")",
                    () -> planner.setJams(part, jams), () -> reference.setJams(part, jams)); break;
            case 3: same("built()", planner::built, reference::built); break;
            case 4: case 5: same("clock()", planner::clock, reference::clock); break;
            case 6: same("mounted()", planner::mounted, reference::mounted); break;
            case 7: same("isBypassed(" + part + ")",
                    () -> planner.isBypassed(part), () -> reference.isBypassed(part)); break;
            default: same("step()", planner::step, reference::step); break;
        }
    }

    private void ask() {
        int set = set();
        int part = part();
        int direction = direction();
        int place = chance(wrongInHundred) ? odd() : below(8);
        switch (below(15)) {
            case 0: same("parts()", planner::parts, reference::parts); break;
            case 1: same("isConnected(" + set + ")",
                    () -> planner.isConnected(set), () -> reference.isConnected(set)); break;
            case 2: same("isSteady(" + set + ")",
                    () -> planner.isSteady(set), () -> reference.isSteady(set)); break;
            case 3: same("free(" + set + ", " + part + ")",
                    () -> planner.free(set, part), () -> reference.free(set, part)); break;
            case 4: same("canTake(" + set + ", " + part + ")",
                    () -> planner.canTake(set, part), () -> reference.canTake(set, part)); break;
            case 5: same("movesWith(" + part + ", " + direction + ")",
                    () -> planner.movesWith(part, direction), () -> reference.movesWith(part, direction)); break;
            case 6: same("boundTo(" + part + ", " + direction + ")",
                    () -> planner.boundTo(part, direction), () -> reference.boundTo(part, direction)); break;
            case 7: same("groups(" + direction + ")",
                    () -> planner.groups(direction), () -> reference.groups(direction)); break;
            case 8: same("splits(" + set + ")",
                    () -> planner.splits(set), () -> reference.splits(set)); break;
            case 9: same("orderAt(" + place + ")",
                    () -> planner.orderAt(place), () -> reference.orderAt(place)); break;
            default: askWhole(); break;
        }
    }

    private void askWhole() {
        if (most == 8 && chance(70)) {
            return;
        }
        switch (below(5)) {
            case 0: same("ways()", planner::ways, reference::ways); break;
            case 1: same("leastDepth()", planner::leastDepth, reference::leastDepth); break;
            case 2: same("orders()", planner::orders, reference::orders); break;
            case 3: same("fewestChanges()", planner::fewestChanges, reference::fewestChanges); break;
            default: same("fewestByListing()", planner::fewestByListing, reference::fewestByListing); break;
        }
    }

    private void addPart() {
        int tool = tool();
        same("addPart(" + tool + ")", () -> planner.addPart(tool), () -> reference.addPart(tool));
    }

    private void setTool() {
        int part = part();
        int tool = tool();
        same("setTool(" + part + ", " + tool + ")",
                () -> planner.setTool(part, tool), () -> reference.setTool(part, tool));
    }

    private void contact(int part, int other, boolean are) {
        same("contact(" + part + ", " + other + ", " + are + ")",
                () -> planner.contact(part, other, are), () -> reference.contact(part, other, are));
    }

    private void hinder(int part, int direction, int other, boolean is) {
        same("hinder(" + part + ", " + direction + ", " + other + ", " + is + ")",
                () -> planner.hinder(part, direction, other, is),
                () -> reference.hinder(part, direction, other, is));
    }

    private void setBase() {
        int part = chance(50) ? 0 : part();
        same("setBase(" + part + ")", () -> planner.setBase(part), () -> reference.setBase(part));
    }

    private void askSteady(boolean is) {
        same("askSteady(" + is + ")", () -> planner.askSteady(is), () -> reference.askSteady(is));
    }

    /** Compares one call, unless the object has been used up; tells of the first difference alone. */
    private void same(String call, Check.Call ours, Check.Call theirs) {
        calls++;
        if (calls > CALLS || told.length() > 0) {
            return;
        }
        Object got = Check.answerOf(ours);
        Object due = Check.answerOf(theirs);
        if (!got.equals(due)) {
            told.append("call ").append(calls).append(", ").append(call);
            told.append(" answered ").append(got).append(", the reference ").append(due);
        }
    }

    private int part() {
        return chance(wrongInHundred) ? odd() : below(Math.max(1, reference.parts()));
    }

    private int direction() {
        return chance(wrongInHundred) ? odd() : below(6);
    }

    private int tool() {
        return chance(wrongInHundred) ? odd() : below(4);
    }

    private int set() {
        return chance(wrongInHundred) ? odd() : 1 + below(Math.max(1, (1 << reference.parts()) - 1));
    }

    /** A number that is mostly out of range. */
    private int odd() {
        int[] numbers = {-1, 0, 4, 5, 6, 7, 8, 9, 255, 256, 257, 32, 33, -2, Integer.MIN_VALUE, Integer.MAX_VALUE};
        return numbers[below(numbers.length)];
    }

    private boolean chance(int inHundred) {
        return below(100) < inHundred;
    }

    private int below(int bound) {
        seed = seed * 6364136223846793005L + 1442695040888963407L;
        return (int) ((seed >>> 33) % bound);
    }
}
