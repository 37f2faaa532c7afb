/** A planner for an assembly cell. */
public final class AssemblyPlanner {
    /** There is none. */
    public static final int NONE = -1;
    /** Directions. */
    public static final int UP = 4, DOWN = 5;

    private static final int MOST_PARTS = 8;
    private static final int MOST_LISTED = 7;
    private static final int SETS = 1 << MOST_PARTS;
    private static final int DIRECTIONS = 6;
    private static final int TOOLS = 4;
    private static final int MOST_JAMS = 5;

    private final Product product;
    private final Parting parting;
    private final Ordering ordering;
    private final Cell cell;

    /** No parts. */
    public AssemblyPlanner() {
        product = new Product();
        parting = new Parting(product);
        ordering = new Ordering(product);
        cell = new Cell(product);
    }

    // ---- the product

    /** Adds a part; returns its number. */
    public int addPart(int tool) throws IllegalArgumentException, IllegalStateException {
        needTool(tool);
        if (product.count() >= MOST_PARTS) {
            throw new IllegalStateException("there are 8 parts");
        }
        productIsTold();
        return product.add(tool);
    }

    /** Says which tool a part needs; returns the tool before. */
    public int setTool(int part, int tool) throws IndexOutOfBoundsException, IllegalArgumentException {
        needPart(part);
        needTool(tool);
        productIsTold();
        return product.changeTool(part, tool);
    }

    /** Says whether two parts are in contact; returns with how many parts the first one is then. */
    public int contact(int part, int other, boolean are)
            throws IndexOutOfBoundsException, IllegalArgumentException {
        needPart(part);
        needPart(other);
        needDifferent(part, other);
        productIsTold();
        return product.tellContact(part, other, are);
    }

    /** Says whether a part is hindered by another one; returns by how many parts it is then. */
    public int hinder(int part, int direction, int other, boolean is)
            throws IndexOutOfBoundsException, IllegalArgumentException {
        needPart(part);
        needDirection(direction);
        needPart(other);
        needDifferent(part, other);
        productIsTold();
        return product.tellHindered(part, direction, other, is);
    }

    /** Says which part is the base; returns the base before. */
    public int setBase(int part) throws IndexOutOfBoundsException {
        needPart(part);
        productIsTold();
        return product.changeBase(part);
    }

    /** Says whether steadiness is asked for; returns whether it was. */
    public boolean askSteady(boolean is) {
        productIsTold();
        return product.changeSteadyAsked(is);
    }

    /** Returns how many parts there are. */
    public int parts() {
        return product.count();
    }

    // ---- sets

    /** Tells whether a set is connected. */
    public boolean isConnected(int set) throws IllegalArgumentException {
        needSet(set);
        return product.connected(set);
    }

    /** Tells whether a set is steady. */
    public boolean isSteady(int set) throws IllegalArgumentException {
        needSet(set);
        return product.steady(set);
    }

    /** Returns the directions in which a part of a set is free, as a sum of powers of 2. */
    public int free(int set, int part) throws IndexOutOfBoundsException, IllegalArgumentException {
        needPart(part);
        needSetWith(set, part);
        return product.freeDirections(set, part);
    }

    /** Tells whether a set is sound and a part can be taken out of it. */
    public boolean canTake(int set, int part) throws IndexOutOfBoundsException, IllegalArgumentException {
        needPart(part);
        needSetWith(set, part);
        return product.takeable(set, part);
    }

    // ---- together and apart

    /** Returns what has to move with a part, the part itself in it. */
    public int movesWith(int part, int direction) throws IndexOutOfBoundsException {
        needPart(part);
        needDirection(direction);
        return product.movingWith(part, direction);
    }

    /** Returns which parts are bound to a part, the part itself in it. */
    public int boundTo(int part, int direction) throws IndexOutOfBoundsException {
        needPart(part);
        needDirection(direction);
        return product.boundWith(part, direction);
    }

    /** Returns into how many groups of bound parts the product falls. */
    public int groups(int direction) throws IndexOutOfBoundsException {
        needDirection(direction);
        return product.boundGroups(direction);
    }

    /** Returns how many splits a set has; 0 if it is not connected or has one part. */
    public int splits(int set) throws IllegalArgumentException {
        needSet(set);
        return parting.splitsOf(set);
    }

    /** Returns in how many ways the product comes apart; 0 if it is not connected. */
    public int ways() throws IllegalStateException {
        needParts();
        return parting.waysOf(product.all());
    }

    /** Returns the least depth of a way in which the product comes apart; NONE if there is no way. */
    public int leastDepth() throws IllegalStateException {
        needParts();
        return parting.leastDepthOf(product.all());
    }

    // ---- orders

    /** Returns how many orders are possible. */
    public int orders() throws IllegalStateException {
        needParts();
        return ordering.possible();
    }

    /** Returns the tool changes of the best order, found by sets; NONE if no order is possible. */
    public int fewestChanges() throws IllegalStateException {
        needParts();
        return ordering.fewestBySets();
    }

    /** Returns the same, found by listing all orders. */
    public int fewestByListing() throws IllegalStateException {
        needParts();
        if (product.count() > MOST_LISTED) {
            throw new IllegalStateException("more than 7 parts");
        }
        return ordering.fewestListed();
    }

    /** Returns a part of the best order; place 0 is the one that is put in first. */
    public int orderAt(int place) throws IndexOutOfBoundsException {
        int part = ordering.bestAt(place);
        if (part == NONE) {
            throw new IndexOutOfBoundsException("no such place, or no order is possible");
        }
        return part;
    }

    // ---- the cell

    /** Tells how many of the next feeds of a part jam; returns how many were to come before. */
    public int setJams(int part, int jams) throws IndexOutOfBoundsException, IllegalArgumentException {
        needPart(part);
        if (jams < 0 || jams > MOST_JAMS) {
            throw new IllegalArgumentException("jams are 0 to 5");
        }
        return cell.changeJams(part, jams);
    }

    /** Begins the execution; returns how many parts the order has. */
    public int begin() throws IllegalStateException {
        needParts();
        if (ordering.fewestBySets() == NONE) {
            throw new IllegalStateException("no order is possible");
        }
        cell.start();
        return product.count();
    }

    /** Makes a step; returns the part that is put in, NONE if its feeder jams. */
    public int step() throws IllegalStateException {
        int part = ordering.bestAt(cell.nextPlace());
        if (part == NONE) {
            throw new IllegalStateException("not begun, or all parts are in");
        }
        return cell.tryToPutIn(part) ? part : NONE;
    }

    /** Takes the part that was put in last out again; returns it. */
    public int stepBack() throws IllegalStateException {
        int part = ordering.bestAt(cell.lastPlace());
        if (part == NONE) {
            throw new IllegalStateException("not begun, or no part is in");
        }
        cell.takeOut(part);
        return part;
    }

    /** Returns the parts that are in; 0 also if the cell is not begun. */
    public int built() {
        return cell.partsIn();
    }

    /** Returns the time since the cell began; 0 if it is not begun. */
    public int clock() {
        return cell.timeSinceStart();
    }

    /** Returns the tool that is mounted; NONE if none is, or the cell is not begun. */
    public int mounted() {
        return cell.toolMounted();
    }

    /** Tells whether the feeder of a part is bypassed; false if the cell is not begun. */
    public boolean isBypassed(int part) throws IndexOutOfBoundsException {
        needPart(part);
        return cell.bypassed(part);
    }

    // ---- what the calls share

    /** Each telling call comes through here, so that nothing outlives the product it was found for. */
    private void productIsTold() {
        parting.forget();
        ordering.forget();
        cell.halt();
    }

    private void needPart(int part) {
        if (part < 0 || part >= product.count()) {
            throw new IndexOutOfBoundsException("no such part");
        }
    }

    private void needDirection(int direction) {
        if (direction < 0 || direction >= DIRECTIONS) {
            throw new IndexOutOfBoundsException("no such direction");
        }
    }

    private void needTool(int tool) {
        if (tool < 0 || tool >= TOOLS) {
            throw new IllegalArgumentException("tools are 0 to 3");
        }
    }

    private void needDifferent(int part, int other) {
        if (part == other) {
            throw new IllegalArgumentException("both parts are the same");
        }
    }

    private void needSet(int set) {
        if (set == 0 || (set & ~product.all()) != 0) {
            throw new IllegalArgumentException("no parts, or parts that there are not");
        }
    }

    private void needSetWith(int set, int part) {
        needSet(set);
        if ((set & (1 << part)) == 0) {
            throw new IllegalArgumentException("the set has not this part");
        }
    }

    private void needParts() {
        if (product.count() == 0) {
            throw new IllegalStateException("there are no parts");
        }
    }

    /** What is told of the product, and what follows for its parts and sets. */
    private static final class Product {
        private final int[] tools = new int[MOST_PARTS];
        /** Behind each part, the set of those that it is in contact with. */
        private final int[] contacts = new int[MOST_PARTS];
        /** At direction * MOST_PARTS + part, the set of those that hinder the part in the direction. */
        private final int[] hinderers = new int[DIRECTIONS * MOST_PARTS];
        private int count;
        private int base;
        private boolean steadyAsked;

        int count() {
            return count;
        }

        /** The set of all parts. */
        int all() {
            return (1 << count) - 1;
        }

        int tool(int part) {
            return tools[part];
        }

        int add(int tool) {
            int part = count;
            tools[part] = tool;
            count++;
            return part;
        }

        int changeTool(int part, int tool) {
            int before = tools[part];
            tools[part] = tool;
            return before;
        }

        int tellContact(int part, int other, boolean are) {
            contacts[part] = changed(contacts[part], other, are);
            contacts[other] = changed(contacts[other], part, are);
            return Integer.bitCount(contacts[part]);
        }

        int tellHindered(int part, int direction, int other, boolean is) {
            int here = direction * MOST_PARTS + part;
            int there = opposite(direction) * MOST_PARTS + other;
            hinderers[here] = changed(hinderers[here], other, is);
            hinderers[there] = changed(hinderers[there], part, is);
            return Integer.bitCount(hinderers[here]);
        }

        int changeBase(int part) {
            int before = base;
            base = part;
            return before;
        }

        boolean changeSteadyAsked(boolean is) {
            boolean before = steadyAsked;
            steadyAsked = is;
            return before;
        }

        boolean connected(int set) {
            int first = set & -set;
            return set != 0 && reached(contacts, 0, first, set) == set;
        }

        boolean steady(int set) {
            // What a part hinders DOWN is what hinders it UP: the support spreads along the latter.
            return reached(hinderers, UP * MOST_PARTS, set & (1 << base), set) == set;
        }

        boolean sound(int set) {
            return set == 0 || connected(set) && (!steadyAsked || steady(set));
        }

        int freeDirections(int set, int part) {
            int free = 0;
            for (int direction = 0; direction < DIRECTIONS; direction++) {
                if ((hinderers[direction * MOST_PARTS + part] & set) == 0) {
                    free |= 1 << direction;
                }
            }
            return free;
        }

        boolean takeable(int set, int part) {
            return sound(set) && freeDirections(set, part) != 0 && sound(set & ~(1 << part));
        }

        int movingWith(int part, int direction) {
            return reached(hinderers, direction * MOST_PARTS, 1 << part, all());
        }

        int boundWith(int part, int direction) {
            // Those that a part has to move with are those that have to move with it the opposite way.
            return movingWith(part, direction) & movingWith(part, opposite(direction));
        }

        int boundGroups(int direction) {
            int groups = 0;
            for (int part = 0; part < count; part++) {
                int lower = (1 << part) - 1;
                // Each group is counted at its lowest part.
                if ((boundWith(part, direction) & lower) == 0) {
                    groups++;
                }
            }
            return groups;
        }

        /** Whether there is a direction in which no part of the one set is hindered by the other set. */
        boolean separable(int one, int other) {
            for (int direction = 0; direction < DIRECTIONS; direction++) {
                if (!hindered(one, direction, other)) {
                    return true;
                }
            }
            return false;
        }

        private boolean hindered(int one, int direction, int other) {
            for (int part = 0; part < count; part++) {
                if ((one & (1 << part)) != 0 && (hinderers[direction * MOST_PARTS + part] & other) != 0) {
                    return true;
                }
            }
            return false;
        }

        private static int opposite(int direction) {
            return direction ^ 1;
        }

        private static int changed(int set, int part, boolean is) {
            return is ? set | (1 << part) : set & ~(1 << part);
        }

        /** Where one comes from some parts, going from part to part by links[first + part] inside a set. */
        private static int reached(int[] links, int first, int from, int inside) {
            int reached = from;
            for (int round = 1; round < MOST_PARTS; round++) {
                for (int part = 0; part < MOST_PARTS; part++) {
                    if ((reached & (1 << part)) != 0) {
                        reached |= links[first + part] & inside;
                    }
                }
            }
            return reached;
        }
    }

    /** In how many ways sets of parts come apart; found once for all sets of a product. */
    private static final class Parting {
        private final Product product;
        private final boolean[] connected = new boolean[SETS];
        private final int[] splits = new int[SETS];
        private final int[] ways = new int[SETS];
        private final int[] depths = new int[SETS];
        private boolean known;

        Parting(Product product) {
            this.product = product;
        }

        void forget() {
            known = false;
        }

        int splitsOf(int set) {
            find();
            return splits[set];
        }

        int waysOf(int set) {
            find();
            return ways[set];
        }

        int leastDepthOf(int set) {
            find();
            return depths[set];
        }

        private void find() {
            if (known) {
                return;
            }
            // The parts of a split are lesser numbers than the set, so they are known ahead of it.
            for (int set = 1; set <= product.all(); set++) {
                connected[set] = product.connected(set);
                findFor(set);
            }
            known = true;
        }

        private void findFor(int set) {
            splits[set] = 0;
            ways[set] = 0;
            depths[set] = NONE;
            if (!connected[set]) {
                return;
            }
            // The lowest part stays in the one set, so that each split is met once.
            int movable = set & (set - 1);
            if (movable == 0) {
                ways[set] = 1;
                depths[set] = 0;
            }
            for (int other = movable; other > 0; other--) {
                if ((other & ~movable) == 0 && isSplit(set ^ other, other)) {
                    addSplit(set, set ^ other, other);
                }
            }
        }

        private boolean isSplit(int one, int other) {
            return connected[one] && connected[other] && product.separable(one, other);
        }

        private void addSplit(int set, int one, int other) {
            splits[set]++;
            ways[set] += ways[one] * ways[other];
            if (depths[one] != NONE && depths[other] != NONE) {
                int depth = 1 + Math.max(depths[one], depths[other]);
                depths[set] = depths[set] == NONE ? depth : Math.min(depths[set], depth);
            }
        }
    }

    /** The possible orders of a product, and the best one of them; found once for a product. */
    private static final class Ordering {
        /** Stands for the changes where no order is possible; no order has as many. */
        private static final int NO_ORDER = 1000;

        private final Product product;
        private final boolean[] sound = new boolean[SETS];
        /** Behind each set, the set of those parts that can come next when its parts are in. */
        private final int[] nexts = new int[SETS];
        /** Behind each set, in how many orders the other parts can follow. */
        private final int[] orders = new int[SETS];
        /** At set * TOOLS + tool, the fewest changes that follow when the set is in and the tool mounted. */
        private final int[] changes = new int[SETS * TOOLS];
        private final int[] best = new int[MOST_PARTS];
        private int fewest;
        private boolean known;

        Ordering(Product product) {
            this.product = product;
        }

        void forget() {
            known = false;
        }

        int possible() {
            find();
            return orders[0];
        }

        int fewestBySets() {
            find();
            return orNone(fewest);
        }

        int fewestListed() {
            find();
            return orNone(listed(this, 0, 0, NONE));
        }

        /** The part at a place of the best order; NONE if there is no such place or order. */
        int bestAt(int place) {
            if (place < 0 || place >= product.count()) {
                return NONE;
            }
            find();
            return fewest == NO_ORDER ? NONE : best[place];
        }

        private static int orNone(int changes) {
            return changes == NO_ORDER ? NONE : changes;
        }

        private void find() {
            if (known) {
                return;
            }
            // A set with a part more is a greater number, so it is known ahead of the set.
            for (int set = product.all(); set >= 0; set--) {
                sound[set] = product.sound(set);
                nexts[set] = nextsOf(set);
                orders[set] = ordersFrom(set);
                for (int tool = 0; tool < TOOLS; tool++) {
                    changes[set * TOOLS + tool] = fewestFrom(set, tool);
                }
            }
            fewest = fewestFrom(0, NONE);
            findBest();
            known = true;
        }

        private int nextsOf(int set) {
            int nexts = 0;
            for (int part = 0; part < product.count(); part++) {
                int with = set | (1 << part);
                if (with != set && sound[set] && sound[with] && product.freeDirections(with, part) != 0) {
                    nexts |= 1 << part;
                }
            }
            return nexts;
        }

        private int ordersFrom(int set) {
            int sum = set == product.all() ? 1 : 0;
            for (int part = 0; part < product.count(); part++) {
                if ((nexts[set] & (1 << part)) != 0) {
                    sum += orders[set | (1 << part)];
                }
            }
            return sum;
        }

        private int fewestFrom(int set, int tool) {
            int least = set == product.all() ? 0 : NO_ORDER;
            for (int part = 0; part < product.count(); part++) {
                if ((nexts[set] & (1 << part)) != 0) {
                    least = Math.min(least, changesWith(set, tool, part));
                }
            }
            return least;
        }

        /** The fewest changes that follow when a part comes next. */
        private int changesWith(int set, int tool, int part) {
            int needed = product.tool(part);
            return change(tool, needed) + changes[(set | (1 << part)) * TOOLS + needed];
        }

        /** The first part of an order needs no change, whatever its tool. */
        private static int change(int tool, int needed) {
            return tool == NONE || tool == needed ? 0 : 1;
        }

        private void findBest() {
            int set = 0;
            int tool = NONE;
            int left = fewest;
            for (int place = 0; place < product.count(); place++) {
                int part = leastNext(set, tool, left);
                if (part == NONE) {
                    return;
                }
                best[place] = part;
                left -= change(tool, product.tool(part));
                tool = product.tool(part);
                set |= 1 << part;
            }
        }

        /** The least part that can come next and leaves the fewest changes possible. */
        private int leastNext(int set, int tool, int left) {
            for (int part = 0; part < product.count(); part++) {
                if ((nexts[set] & (1 << part)) != 0 && changesWith(set, tool, part) == left) {
                    return part;
                }
            }
            return NONE;
        }

        /** The fewest changes of all orders that go on from a set, by going through each of them. */
        private static int listed(Ordering of, int place, int set, int tool) {
            if (place >= of.product.count() || place >= MOST_LISTED) {
                return 0;
            }
            int least = NO_ORDER;
            for (int part = 0; part < of.product.count(); part++) {
                if ((of.nexts[set] & (1 << part)) != 0) {
                    int needed = of.product.tool(part);
                    int after = listed(of, place + 1, set | (1 << part), needed);
                    least = Math.min(least, change(tool, needed) + after);
                }
            }
            return least;
        }
    }

    /** The cell: what is in, how long it took, and how the feeders are. */
    private static final class Cell {
        private static final int JAMS_TO_BYPASS = 2;
        private static final int CHANGE_TIME = 5;
        private static final int CLEAR_TIME = 3;
        private static final int FEED_TIME = 1;
        private static final int BYPASS_TIME = 4;
        private static final int PUT_IN_TIME = 2;
        private static final int FREE_PUT_IN_TIME = 1;
        private static final int TAKE_OUT_TIME = 2;

        private final Product product;
        private final int[] jamsToCome = new int[MOST_PARTS];
        private final int[] jamsSinceStart = new int[MOST_PARTS];
        private boolean begun;
        private int placesIn;
        private int in;
        private int time;
        private int tool = NONE;

        Cell(Product product) {
            this.product = product;
        }

        int changeJams(int part, int jams) {
            int before = jamsToCome[part];
            jamsToCome[part] = jams;
            return before;
        }

        void start() {
            halt();
            begun = true;
        }

        void halt() {
            begun = false;
            placesIn = 0;
            in = 0;
            time = 0;
            tool = NONE;
            for (int part = 0; part < MOST_PARTS; part++) {
                jamsSinceStart[part] = 0;
            }
        }

        /** The place of the order that is turned to next; NONE if the cell is not begun. */
        int nextPlace() {
            return begun ? placesIn : NONE;
        }

        /** The place of the order that was put in last; NONE if no part is in. */
        int lastPlace() {
            return placesIn > 0 ? placesIn - 1 : NONE;
        }

        /** Turns to the next part; tells whether it is in then, or its feeder jammed. */
        boolean tryToPutIn(int part) {
            mount(product.tool(part));
            if (jamsToCome[part] > 0 && !bypassed(part)) {
                clearJam(part);
                return false;
            }
            time += bypassed(part) ? BYPASS_TIME : FEED_TIME;
            putIn(part);
            return true;
        }

        void takeOut(int part) {
            in &= ~(1 << part);
            placesIn--;
            time += TAKE_OUT_TIME;
        }

        int partsIn() {
            return in;
        }

        int timeSinceStart() {
            return time;
        }

        int toolMounted() {
            return tool;
        }

        boolean bypassed(int part) {
            return jamsSinceStart[part] >= JAMS_TO_BYPASS;
        }

        private void mount(int needed) {
            if (tool != needed) {
                tool = needed;
                time += CHANGE_TIME;
            }
        }

        private void clearJam(int part) {
            jamsToCome[part]--;
            jamsSinceStart[part]++;
            time += CLEAR_TIME;
        }

        private void putIn(int part) {
            in |= 1 << part;
            placesIn++;
            boolean free = (product.freeDirections(in, part) & (1 << UP)) != 0;
            time += free ? FREE_PUT_IN_TIME : PUT_IN_TIME;
        }
    }
}
