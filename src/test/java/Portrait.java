/** What calls tell of a planner, one answer behind the other; it uses the planner up, within its 512 calls. */
final class Portrait {
    private final AssemblyPlanner planner;
    private final int parts;
    private final StringBuilder text = new StringBuilder();

    private Portrait(AssemblyPlanner planner) {
        this.planner = planner;
        parts = planner.parts();
    }

    /** Says "the same", or what is not the same. */
    static String compare(AssemblyPlanner one, AssemblyPlanner other) {
        String ofOne = of(one);
        String ofOther = of(other);
        return ofOne.equals(ofOther) ? "the same" : ofOne + " instead of " + ofOther;
    }

    private static String of(AssemblyPlanner planner) {
        Portrait portrait = new Portrait(planner);
        portrait.cell();
        portrait.eachPart();
        portrait.pairs();
        portrait.whole();
        portrait.execution();
        portrait.rest();
        return portrait.text.toString();
    }

    private void cell() {
        text.append(parts);
        add(planner::built, planner::clock, planner::mounted);
        for (int part = 0; part < parts; part++) {
            int at = part;
            add(() -> planner.isBypassed(at));
        }
    }

    private void eachPart() {
        for (int part = 0; part < parts; part++) {
            int at = part;
            add(() -> planner.isSteady(1 << at), () -> planner.orderAt(at));
            for (int direction = 0; direction < 6; direction++) {
                int way = direction;
                add(() -> planner.movesWith(at, way));
            }
        }
    }

    private void pairs() {
        for (int part = 1; part < parts; part++) {
            for (int other = 0; other < part; other++) {
                int one = part;
                int two = other;
                int set = (1 << one) + (1 << two);
                add(() -> planner.isConnected(set), () -> planner.splits(set), () -> planner.free(set, one),
                        () -> planner.free(set, two), () -> planner.canTake(set, one));
            }
        }
    }

    private void whole() {
        int set = (1 << parts) - 1;
        for (int part = 0; part < parts; part++) {
            int at = part;
            add(() -> planner.boundTo(at, 2), () -> planner.canTake(set, at));
        }
        add(() -> planner.groups(4), () -> planner.isSteady(set), () -> planner.splits(set));
        add(planner::ways, planner::leastDepth, planner::orders);
        add(planner::fewestChanges, planner::fewestByListing);
    }

    private void execution() {
        for (int step = 0; step < 16; step++) {
            add(planner::step, planner::clock);
        }
        add(planner::stepBack, planner::built, planner::mounted);
    }

    private void rest() {
        for (int part = 0; part < parts; part++) {
            int at = part;
            add(() -> planner.setJams(at, 0), () -> planner.isBypassed(at), () -> planner.setTool(at, 0));
        }
        if (parts > 0) {
            add(() -> planner.setBase(0));
        }
        add(() -> planner.askSteady(true), () -> planner.addPart(0), planner::built);
    }

    private void add(Check.Call... calls) {
        for (Check.Call call : calls) {
            text.append(' ').append(Check.answerOf(call));
        }
    }
}
