/** Products that several tests start from. */
final class Products {
    private Products() {
    }

    /** Parts with these tools, without contacts. */
    static AssemblyPlanner loose(int... tools) {
        AssemblyPlanner planner = new AssemblyPlanner();
        for (int tool : tools) {
            planner.addPart(tool);
        }
        return planner;
    }

    /** Parts with these tools, each in contact with the one ahead. */
    static AssemblyPlanner row(int... tools) {
        AssemblyPlanner planner = loose(tools);
        for (int part = 1; part < tools.length; part++) {
            planner.contact(part - 1, part, true);
        }
        return planner;
    }

    /** Parts with these tools, each in contact with each. */
    static AssemblyPlanner clump(int... tools) {
        AssemblyPlanner planner = loose(tools);
        for (int part = 1; part < tools.length; part++) {
            for (int other = 0; other < part; other++) {
                planner.contact(part, other, true);
            }
        }
        return planner;
    }

    /** Parts with these tools, each standing on the one ahead. */
    static AssemblyPlanner tower(int... tools) {
        AssemblyPlanner planner = row(tools);
        for (int part = 1; part < tools.length; part++) {
            planner.hinder(part, AssemblyPlanner.DOWN, part - 1, true);
        }
        return planner;
    }

    /** Makes one part hinder another one in every direction. */
    static void lock(AssemblyPlanner planner, int part, int other) {
        for (int direction = 0; direction < 6; direction++) {
            planner.hinder(part, direction, other, true);
        }
    }
}
