import java.util.ArrayList;
import java.util.HashMap;
import java.util.List;
import java.util.Map;

/** The document's words, followed one by one and without any thrift; the planner is compared with it. */
final class Reference {
    private final List<Integer> tools = new ArrayList<>();
    private final boolean[][] touches = new boolean[8][8];
    /** hinders[d][p][q]: part p is hindered in direction d by part q. */
    private final boolean[][][] hinders = new boolean[6][8][8];
    private int base;
    private boolean steadyAsked;

    private boolean listed;
    private int orderCount;
    private int bestChanges;
    private List<Integer> best;

    private final Map<Integer, Integer> jams = new HashMap<>();
    private boolean begun;
    private List<Integer> in = new ArrayList<>();
    private Map<Integer, Integer> seen = new HashMap<>();
    private int time;
    private int mounted = -1;

    // ---- the product

    int addPart(int tool) {
        argument(tool >= 0 && tool <= 3);
        state(tools.size() < 8);
        told();
        tools.add(tool);
        return tools.size() - 1;
    }

    int setTool(int part, int tool) {
        index(isPart(part));
        argument(tool >= 0 && tool <= 3);
        told();
        return tools.set(part, tool);
    }

    int contact(int part, int other, boolean are) {
        index(isPart(part) && isPart(other));
        argument(part != other);
        told();
        touches[part][other] = are;
        touches[other][part] = are;
        return count(touches[part]);
    }

    int hinder(int part, int direction, int other, boolean is) {
        index(isPart(part) && isPart(other) && isDirection(direction));
        argument(part != other);
        told();
        int opposite = new int[] {1, 0, 3, 2, 5, 4}[direction];
        hinders[direction][part][other] = is;
        hinders[opposite][other][part] = is;
        return count(hinders[direction][part]);
    }

    int setBase(int part) {
        index(isPart(part));
        told();
        int before = base;
        base = part;
        return before;
    }

    boolean askSteady(boolean is) {
        told();
        boolean before = steadyAsked;
        steadyAsked = is;
        return before;
    }

    int parts() {
        return tools.size();
    }

    // ---- sets

    boolean isConnected(int set) {
        argument(isSet(set));
        return connected(partsOf(set));
    }

    boolean isSteady(int set) {
        argument(isSet(set));
        return steady(partsOf(set));
    }

    int free(int set, int part) {
        index(isPart(part));
        argument(isSet(set) && partsOf(set).contains(part));
        return freeWays(partsOf(set), part);
    }

    boolean canTake(int set, int part) {
        index(isPart(part));
        argument(isSet(set) && partsOf(set).contains(part));
        return takeable(partsOf(set), part);
    }

    // ---- together and apart

    int movesWith(int part, int direction) {
        index(isPart(part) && isDirection(direction));
        return numberOf(moving(part, direction));
    }

    int boundTo(int part, int direction) {
        index(isPart(part) && isDirection(direction));
        return numberOf(bound(part, direction));
    }

    int groups(int direction) {
        index(isDirection(direction));
        List<List<Integer>> groups = new ArrayList<>();
        for (int part = 0; part < tools.size(); part++) {
            List<Integer> group = bound(part, direction);
            if (!groups.contains(group)) {
                groups.add(group);
            }
        }
        return groups.size();
    }

    int splits(int set) {
        argument(isSet(set));
        return splitsOf(set).size();
    }

    int ways() {
        state(!tools.isEmpty());
        return waysOf((1 << tools.size()) - 1, new HashMap<>());
    }

    int leastDepth() {
        state(!tools.isEmpty());
        return depthOf((1 << tools.size()) - 1, new HashMap<>());
    }

    // ---- orders

    int orders() {
        state(!tools.isEmpty());
        list();
        return orderCount;
    }

    int fewestChanges() {
        state(!tools.isEmpty());
        list();
        return best == null ? -1 : bestChanges;
    }

    int fewestByListing() {
        state(!tools.isEmpty() && tools.size() <= 7);
        return fewestChanges();
    }

    int orderAt(int place) {
        index(place >= 0 && place < tools.size());
        list();
        index(best != null);
        return best.get(place);
    }

    // ---- the cell

    int setJams(int part, int number) {
        index(isPart(part));
        argument(number >= 0 && number <= 5);
        int before = jams.getOrDefault(part, 0);
        jams.put(part, number);
        return before;
    }

    int begin() {
        state(!tools.isEmpty());
        list();
        state(best != null);
        told();
        listed = true;
        begun = true;
        return best.size();
    }

    int step() {
        state(begun && in.size() < tools.size());
        list();
        int part = best.get(in.size());
        if (mounted != tools.get(part)) {
            mounted = tools.get(part);
            time += 5;
        }
        int number = jams.getOrDefault(part, 0);
        if (number > 0 && !isBypassed(part)) {
            jams.put(part, number - 1);
            seen.put(part, seen.getOrDefault(part, 0) + 1);
            time += 3;
            return -1;
        }
        time += isBypassed(part) ? 4 : 1;
        in.add(part);
        time += freeWays(in, part) / 16 % 2 == 1 ? 1 : 2;
        return part;
    }

    int stepBack() {
        state(begun && !in.isEmpty());
        time += 2;
        return in.remove(in.size() - 1);
    }

    int built() {
        return numberOf(in);
    }

    int clock() {
        return time;
    }

    int mounted() {
        return mounted;
    }

    boolean isBypassed(int part) {
        index(isPart(part));
        return seen.getOrDefault(part, 0) >= 2;
    }

    // ---- the terms

    private void told() {
        listed = false;
        begun = false;
        in = new ArrayList<>();
        seen = new HashMap<>();
        time = 0;
        mounted = -1;
    }

    private boolean connected(List<Integer> set) {
        if (set.isEmpty()) {
            return false;
        }
        List<Integer> reached = new ArrayList<>(List.of(set.get(set.size() - 1)));
        for (int at = 0; at < reached.size(); at++) {
            for (int other : set) {
                if (touches[reached.get(at)][other] && !reached.contains(other)) {
                    reached.add(other);
                }
            }
        }
        return reached.size() == set.size();
    }

    private boolean steady(List<Integer> set) {
        List<Integer> supported = new ArrayList<>();
        boolean more = true;
        while (more) {
            more = false;
            for (int part : set) {
                if (!supported.contains(part) && (part == base || standsOnOneOf(part, supported))) {
                    supported.add(part);
                    more = true;
                }
            }
        }
        return supported.size() == set.size();
    }

    private boolean standsOnOneOf(int part, List<Integer> supported) {
        for (int other : supported) {
            if (hinders[5][part][other]) {
                return true;
            }
        }
        return false;
    }

    private int freeWays(List<Integer> set, int part) {
        int sum = 0;
        for (int direction = 0; direction < 6; direction++) {
            boolean free = true;
            for (int other : set) {
                free = free && !hinders[direction][part][other];
            }
            sum += free ? (int) Math.pow(2, direction) : 0;
        }
        return sum;
    }

    private boolean sound(List<Integer> set) {
        return set.isEmpty() || connected(set) && (steady(set) || !steadyAsked);
    }

    private boolean takeable(List<Integer> set, int part) {
        List<Integer> without = new ArrayList<>(set);
        without.remove(Integer.valueOf(part));
        return sound(set) && freeWays(set, part) > 0 && sound(without);
    }

    private List<Integer> moving(int part, int direction) {
        List<Integer> moving = new ArrayList<>(List.of(part));
        for (int at = 0; at < moving.size(); at++) {
            for (int other = 0; other < tools.size(); other++) {
                if (hinders[direction][moving.get(at)][other] && !moving.contains(other)) {
                    moving.add(other);
                }
            }
        }
        return moving;
    }

    private List<Integer> bound(int part, int direction) {
        List<Integer> bound = new ArrayList<>();
        for (int other = 0; other < tools.size(); other++) {
            if (moving(part, direction).contains(other) && moving(other, direction).contains(part)) {
                bound.add(other);
            }
        }
        return bound;
    }

    /** The one set of each split. */
    private List<Integer> splitsOf(int set) {
        List<Integer> splits = new ArrayList<>();
        if (!connected(partsOf(set))) {
            return splits;
        }
        for (int one = 1; one < set; one++) {
            int other = set - one;
            if ((one | other) == set && (one & other) == 0 && !splits.contains(other)
                    && connected(partsOf(one)) && connected(partsOf(other)) && separable(one, other)) {
                splits.add(one);
            }
        }
        return splits;
    }

    private boolean separable(int one, int other) {
        for (int direction = 0; direction < 6; direction++) {
            boolean hindered = false;
            for (int part : partsOf(one)) {
                for (int against : partsOf(other)) {
                    hindered = hindered || hinders[direction][part][against];
                }
            }
            if (!hindered) {
                return true;
            }
        }
        return false;
    }

    private int waysOf(int set, Map<Integer, Integer> known) {
        if (Integer.bitCount(set) == 1) {
            return 1;
        }
        if (!known.containsKey(set)) {
            int sum = 0;
            for (int one : splitsOf(set)) {
                sum += waysOf(one, known) * waysOf(set - one, known);
            }
            known.put(set, sum);
        }
        return known.get(set);
    }

    private int depthOf(int set, Map<Integer, Integer> known) {
        if (Integer.bitCount(set) == 1) {
            return 0;
        }
        if (!known.containsKey(set)) {
            int least = -1;
            for (int one : splitsOf(set)) {
                int first = depthOf(one, known);
                int second = depthOf(set - one, known);
                if (first >= 0 && second >= 0 && (least < 0 || 1 + Math.max(first, second) < least)) {
                    least = 1 + Math.max(first, second);
                }
            }
            known.put(set, least);
        }
        return known.get(set);
    }

    /** Goes through all orders, the lesser ones first. */
    private void list() {
        if (!listed) {
            listed = true;
            orderCount = 0;
            best = null;
            listFrom(new ArrayList<>());
        }
    }

    private void listFrom(List<Integer> order) {
        if (order.size() == tools.size()) {
            orderCount++;
            int changes = changesOf(order);
            if (best == null || changes < bestChanges) {
                best = new ArrayList<>(order);
                bestChanges = changes;
            }
        }
        for (int part = 0; part < tools.size(); part++) {
            if (!order.contains(part)) {
                order.add(part);
                if (takeable(order, part)) {
                    listFrom(order);
                }
                order.remove(order.size() - 1);
            }
        }
    }

    private int changesOf(List<Integer> order) {
        int changes = 0;
        for (int place = 1; place < order.size(); place++) {
            changes += tools.get(order.get(place)).equals(tools.get(order.get(place - 1))) ? 0 : 1;
        }
        return changes;
    }

    private static List<Integer> partsOf(int set) {
        List<Integer> parts = new ArrayList<>();
        for (int part = 0; part < 8; part++) {
            if (set / (1 << part) % 2 == 1) {
                parts.add(part);
            }
        }
        return parts;
    }

    private static int numberOf(List<Integer> parts) {
        int sum = 0;
        for (int part : parts) {
            sum += 1 << part;
        }
        return sum;
    }

    private static int count(boolean[] row) {
        int count = 0;
        for (boolean is : row) {
            count += is ? 1 : 0;
        }
        return count;
    }

    private boolean isPart(int part) {
        return part >= 0 && part < tools.size();
    }

    private static boolean isDirection(int direction) {
        return direction >= 0 && direction < 6;
    }

    private boolean isSet(int set) {
        return set > 0 && set < 1 << tools.size();
    }

    private static void index(boolean right) {
        if (!right) {
            throw new IndexOutOfBoundsException();
        }
    }

    private static void argument(boolean right) {
        if (!right) {
            throw new IllegalArgumentException();
        }
    }

    private static void state(boolean right) {
        if (!right) {
            throw new IllegalStateException();
        }
    }
}
