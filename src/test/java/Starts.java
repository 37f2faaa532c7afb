/** Planners in different states, made anew at each call; refused calls are tried on them. */
final class Starts {
    private Starts() {
    }

    static AssemblyPlanner nothing() {
        return new AssemblyPlanner();
    }

    /** No parts yet, but steadiness is asked for. */
    static AssemblyPlanner nothingSteady() {
        AssemblyPlanner planner = new AssemblyPlanner();
        planner.askSteady(true);
        return planner;
    }

    /** One part, and it is in. */
    static AssemblyPlanner one() {
        AssemblyPlanner planner = Products.loose(3);
        planner.setJams(0, 5);
        planner.begin();
        planner.step();
        planner.step();
        planner.step();
        return planner;
    }

    /** Three parts of which no order is possible, with jams to come. */
    static AssemblyPlanner apart() {
        AssemblyPlanner planner = Products.loose(1, 2, 1);
        planner.contact(0, 2, true);
        planner.setJams(1, 4);
        return planner;
    }

    /** Three parts, two of them in, their feeders bypassed; the last one's feeder has jammed once and will again. */
    static AssemblyPlanner three() {
        AssemblyPlanner planner = Products.tower(1, 2, 1);
        planner.setBase(1);
        planner.hinder(0, 2, 1, true);
        planner.setJams(0, 2);
        planner.setJams(1, 3);
        planner.setJams(2, 3);
        planner.begin();
        for (int step = 0; step < 7; step++) {
            planner.step();
        }
        return planner;
    }

    /** Three parts, begun, but none is in yet; the first one of the order, part 1, will jam. */
    static AssemblyPlanner threeBegun() {
        AssemblyPlanner planner = Products.tower(1, 2, 1);
        planner.setJams(1, 1);
        planner.begin();
        return planner;
    }

    /** Three parts, all of them in, with jams to come. */
    static AssemblyPlanner threeIn() {
        AssemblyPlanner planner = Products.tower(1, 2, 1);
        planner.begin();
        planner.step();
        planner.step();
        planner.step();
        planner.setJams(0, 3);
        planner.setJams(2, 1);
        return planner;
    }

    /** Eight parts, two of them in; steadiness is asked for. */
    static AssemblyPlanner eight() {
        AssemblyPlanner planner = Products.tower(0, 1, 2, 3, 3, 2, 1, 0);
        planner.askSteady(true);
        planner.setJams(1, 1);
        planner.setJams(7, 2);
        planner.begin();
        planner.step();
        planner.step();
        planner.step();
        return planner;
    }
}
