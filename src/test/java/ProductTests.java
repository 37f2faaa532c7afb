/** Promises 1 to 8: the product. */
final class ProductTests {
    static void run(Check check) {
        newObject(check);
        addPart(check);
        setTool(check);
        contact(check);
        hinder(check);
        setBase(check);
        askSteady(check);
        parts(check);
    }

    private static void newObject(Check check) {
        check.title("Promise 1: A new object");
        AssemblyPlanner planner = new AssemblyPlanner();
        check.due(0, planner::parts);
        check.due(Check.INDEX, () -> planner.setBase(0));
        check.due(Check.ARGUMENT, () -> planner.isConnected(1));
        check.due(0, () -> planner.groups(0));
        check.due(Check.STATE, planner::orders);
        check.due(Check.INDEX, () -> planner.orderAt(0));
        check.due(0, planner::built);
        check.due(0, planner::clock);
        check.due(AssemblyPlanner.NONE, planner::mounted);
        check.due(false, () -> planner.askSteady(false));

        AssemblyPlanner first = Products.row(1, 2);
        AssemblyPlanner second = new AssemblyPlanner();
        check.due(2, first::parts);
        check.due(0, second::parts);
    }

    private static void addPart(Check check) {
        check.title("Promise 2: addPart");
        AssemblyPlanner planner = new AssemblyPlanner();
        check.due(Check.ARGUMENT, () -> planner.addPart(-1));
        check.due(Check.ARGUMENT, () -> planner.addPart(4));
        check.due(Check.ARGUMENT, () -> planner.addPart(Integer.MAX_VALUE));
        check.due(Check.ARGUMENT, () -> planner.addPart(Integer.MIN_VALUE));
        for (int part = 0; part < 8; part++) {
            int tool = part % 4;
            check.due(part, () -> planner.addPart(tool));
        }
        check.due(Check.STATE, () -> planner.addPart(0));
        check.due(Check.STATE, () -> planner.addPart(3));
        check.due(Check.ARGUMENT, () -> planner.addPart(4));
        check.due(Check.ARGUMENT, () -> planner.addPart(-1));
        check.due(8, planner::parts);
        for (int part = 0; part < 8; part++) {
            int number = part;
            check.due(part % 4, () -> planner.setTool(number, 0));
        }

        AssemblyPlanner fresh = Products.clump(0, 0);
        fresh.addPart(0);
        check.due(63, () -> fresh.free(7, 2));
        check.due(false, () -> fresh.isConnected(7));
        check.due(0, () -> fresh.setJams(2, 1));
    }

    private static void setTool(Check check) {
        check.title("Promise 3: setTool");
        AssemblyPlanner planner = Products.row(1, 2);
        check.due(1, () -> planner.setTool(0, 3));
        check.due(3, () -> planner.setTool(0, 0));
        check.due(0, () -> planner.setTool(0, 0));
        check.due(2, () -> planner.setTool(1, 2));
        check.due(1, planner::fewestChanges);
        check.due(0, () -> planner.setTool(0, 2));
        check.due(0, planner::fewestChanges);
        check.due(0, planner::fewestByListing);
        check.due(Check.INDEX, () -> planner.setTool(-1, 0));
        check.due(Check.INDEX, () -> planner.setTool(2, 0));
        check.due(Check.INDEX, () -> planner.setTool(2, 4));
        check.due(Check.INDEX, () -> planner.setTool(Integer.MIN_VALUE, -1));
        check.due(Check.ARGUMENT, () -> planner.setTool(1, 4));
        check.due(Check.ARGUMENT, () -> planner.setTool(1, -1));
        check.due(2, () -> planner.setTool(1, 1));
    }

    private static void contact(Check check) {
        check.title("Promise 4: contact");
        AssemblyPlanner planner = Products.loose(0, 0, 0, 0);
        check.due(false, () -> planner.isConnected(3));
        check.due(1, () -> planner.contact(0, 1, true));
        check.due(true, () -> planner.isConnected(3));
        check.due(1, () -> planner.contact(1, 0, true));
        check.due(2, () -> planner.contact(1, 2, true));
        check.due(3, () -> planner.contact(1, 3, true));
        check.due(2, () -> planner.contact(3, 0, true));
        check.due(2, () -> planner.contact(0, 1, true));
        check.due(1, () -> planner.contact(0, 1, false));
        check.due(false, () -> planner.isConnected(3));
        check.due(2, () -> planner.contact(1, 0, false));
        check.due(0, () -> planner.contact(2, 1, false));
        check.due(Check.INDEX, () -> planner.contact(-1, 0, true));
        check.due(Check.INDEX, () -> planner.contact(0, -1, true));
        check.due(Check.INDEX, () -> planner.contact(4, 0, true));
        check.due(Check.INDEX, () -> planner.contact(0, 4, false));
        check.due(Check.INDEX, () -> planner.contact(4, 4, true));
        check.due(Check.INDEX, () -> planner.contact(-1, -1, true));
        check.due(Check.ARGUMENT, () -> planner.contact(3, 3, true));
        check.due(Check.ARGUMENT, () -> planner.contact(0, 0, false));
    }

    private static void hinder(Check check) {
        check.title("Promise 5: hinder");
        AssemblyPlanner planner = Products.clump(0, 0, 0);
        for (int direction = 0; direction < 6; direction++) {
            int way = direction;
            int opposite = direction % 2 == 0 ? direction + 1 : direction - 1;
            check.due(1, () -> planner.hinder(0, way, 1, true));
            check.due(63 - (1 << way), () -> planner.free(7, 0));
            check.due(63 - (1 << opposite), () -> planner.free(7, 1));
            check.due(2, () -> planner.hinder(0, way, 2, true));
            check.due(1, () -> planner.hinder(2, opposite, 0, true));
            check.due(1, () -> planner.hinder(1, opposite, 0, true));
            check.due(0, () -> planner.hinder(1, opposite, 0, false));
            check.due(63, () -> planner.free(3, 0));
            check.due(0, () -> planner.hinder(0, way, 2, false));
            check.due(0, () -> planner.hinder(0, way, 2, false));
            check.due(63, () -> planner.free(7, 2));
        }
        check.due(1, () -> planner.hinder(0, 4, 1, true));
        check.due(1, () -> planner.hinder(0, 5, 1, true));
        check.due(0, () -> planner.hinder(0, 4, 1, false));
        check.due(1, () -> planner.hinder(0, 5, 1, true));
        check.due(Check.INDEX, () -> planner.hinder(-1, 0, 1, true));
        check.due(Check.INDEX, () -> planner.hinder(3, 0, 1, true));
        check.due(Check.INDEX, () -> planner.hinder(0, 0, -1, true));
        check.due(Check.INDEX, () -> planner.hinder(0, 0, 3, true));
        check.due(Check.INDEX, () -> planner.hinder(0, -1, 1, true));
        check.due(Check.INDEX, () -> planner.hinder(0, 6, 1, true));
        check.due(Check.INDEX, () -> planner.hinder(1, 6, 1, true));
        check.due(Check.INDEX, () -> planner.hinder(3, 0, 3, true));
        check.due(Check.ARGUMENT, () -> planner.hinder(1, 5, 1, true));
        check.due(Check.ARGUMENT, () -> planner.hinder(0, 0, 0, false));
    }

    private static void setBase(Check check) {
        check.title("Promise 6: setBase");
        AssemblyPlanner planner = Products.tower(0, 0, 0);
        check.due(true, () -> planner.isSteady(7));
        check.due(0, () -> planner.setBase(2));
        check.due(false, () -> planner.isSteady(7));
        check.due(true, () -> planner.isSteady(4));
        check.due(2, () -> planner.setBase(2));
        check.due(2, () -> planner.setBase(1));
        check.due(true, () -> planner.isSteady(6));
        check.due(Check.INDEX, () -> planner.setBase(3));
        check.due(Check.INDEX, () -> planner.setBase(-1));
        check.due(1, () -> planner.setBase(0));
    }

    private static void askSteady(Check check) {
        check.title("Promise 7: askSteady");
        AssemblyPlanner planner = Products.row(0, 0);
        check.due(2, planner::orders);
        check.due(false, () -> planner.askSteady(true));
        check.due(0, planner::orders);
        check.due(true, () -> planner.askSteady(true));
        check.due(true, () -> planner.askSteady(false));
        check.due(false, () -> planner.askSteady(false));
        check.due(2, planner::orders);

        AssemblyPlanner early = new AssemblyPlanner();
        check.due(false, () -> early.askSteady(true));
        early.addPart(0);
        early.addPart(0);
        early.contact(0, 1, true);
        check.due(0, early::orders);
        check.due(1, () -> early.hinder(1, 5, 0, true));
        check.due(1, early::orders);
    }

    private static void parts(Check check) {
        check.title("Promise 8: parts");
        AssemblyPlanner planner = new AssemblyPlanner();
        for (int part = 0; part < 8; part++) {
            check.due(part, planner::parts);
            planner.addPart(0);
        }
        check.due(8, planner::parts);
        check.due(Check.STATE, () -> planner.addPart(0));
        check.due(8, planner::parts);
    }
}
