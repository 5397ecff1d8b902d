import java.util.ArrayList;
import java.util.HashSet;
import java.util.List;
import java.util.NoSuchElementException;
import java.util.Random;
import java.util.Set;

/** Promises 12 to 14: orders of bends and heat, against bends made one by one with turned frames. */
public final class BendTest {
    private static final Class<IndexOutOfBoundsException> NO_TUBE = IndexOutOfBoundsException.class;

    public static void main(String[] args) {
        plainOrders();
        spirals();
        wrongOrders();
        wrongIndexes();
        likeTurnedFrames();
        narrowPaths();
        Check.end(BendTest.class);
    }

    private static String orderOf(Neonworks shop, int tube) {
        StringBuilder all = new StringBuilder();
        for (int i = 0; i < shop.bends(tube); i++) {
            all.append(shop.orderAt(tube, i) + 1);
        }
        return all.toString();
    }

    private static void plainOrders() {
        Neonworks shop = new Neonworks();
        Make.tube(shop, 8, "eee", 0, 0, 0);
        Check.same("heat without bends", shop.heat(0), 0);
        Check.same("no bends can be made", shop.canBend(0, 0), true);
        Make.tube(shop, 8, "en", 0, 0, 0);
        Check.same("heat of one bend", shop.heat(1), 10);
        Check.same("one bend can be made", shop.canBend(1, 1), true);
        Make.tube(shop, 8, "enenenene", 0, 0, 0);
        Check.same("order of a stair", orderOf(shop, 2), "12345678");
        Check.same("heat of a stair", shop.heat(2), 80);
        Check.same("a stair backwards", shop.canBend(2, 87654321), true);
        Check.same("a stair criss-cross", shop.canBend(2, 15263748), true);
    }

    private static void spirals() {
        Neonworks shop = new Neonworks();
        Make.tube(shop, 8, Make.runs("e5n3w3s1e1"), 0, 0, 0);
        Check.same("a spiral by rising numbers", shop.canBend(0, 1234), true);
        // With its three first bends made, the rest of the glass would go straight through the first run.
        Make.tube(shop, 8, Make.runs("e5n3w3s2e1n1"), 0, 0, 0);
        Check.same("its third bend without its fourth", shop.canBend(1, 12345), false);
        Check.same("its fourth bend ahead of its third", shop.canBend(1, 12435), true);
        Check.same("its order", orderOf(shop, 1), "12435");
        Check.same("its heat, two times no neighbour", shop.heat(1), 60);
        // Places met twice count at the very end, too.
        Make.tube(shop, 8, Make.runs("e3n3w3s1w1"), 0, 0, 0);
        Check.same("a way out at the end", shop.canBend(2, 1234), true);
        Make.tube(shop, 8, Make.runs("e3n3w3s2w1"), 0, 0, 0);
        Check.same("the rest just meets the first place", shop.canBend(3, 1234), false);
        Check.same("the order goes round that", orderOf(shop, 3), "1243");
        Check.same("the heat of that, one time no neighbour", shop.heat(3), 45);
    }

    private static void wrongOrders() {
        Neonworks shop = new Neonworks();
        Make.tube(shop, 8, "eenneess", 0, 0, 0);
        long[] wrong = {0, 1, 12, 1233, 1234, 124, 120, 112, -123, 1230, 10123, 223, Long.MAX_VALUE, Long.MIN_VALUE, -1};
        for (long order : wrong) {
            Check.fails("order " + order, IllegalArgumentException.class, () -> shop.canBend(0, order));
        }
        for (long order : new long[] {123, 132, 213, 231, 312, 321}) {
            Check.same("order " + order, shop.canBend(0, order), true);
        }
        Make.tube(shop, 8, "ee", 0, 0, 0);
        for (long order : new long[] {1, -1, 10, 12345678}) {
            Check.fails("order without bends " + order, IllegalArgumentException.class, () -> shop.canBend(1, order));
        }
        Check.fails("order of no tube", NO_TUBE, () -> shop.canBend(2, 0));
        Check.fails("order of no tube", NO_TUBE, () -> shop.canBend(-1, 99));
    }

    private static void wrongIndexes() {
        Neonworks shop = new Neonworks();
        Make.tube(shop, 8, "eenn", 0, 0, 0);
        Check.same("orderAt 0", shop.orderAt(0, 0), 0);
        for (int index : new int[] {-1, 1, 8, Integer.MAX_VALUE, Integer.MIN_VALUE}) {
            Check.fails("orderAt " + index, NoSuchElementException.class, () -> shop.orderAt(0, index));
        }
        Check.fails("orderAt of no tube", NO_TUBE, () -> shop.orderAt(1, 9));
        Check.fails("orderAt of no tube", NO_TUBE, () -> shop.orderAt(-1, 0));
        Check.fails("heat of no tube", NO_TUBE, () -> shop.heat(1));
        Check.fails("heat of no tube", NO_TUBE, () -> shop.heat(-1));
    }

    // ---- the same by frames: each bend is a turn in the frame of the run ahead of it ----

    private static void likeTurnedFrames() {
        Random random = new Random(7);
        int odd = 0;
        int made = 0;
        while (made < 400) {
            String path = randomPath(random);
            if (Make.typed(path).judge(8) == 'g') {
                made++;
                odd += isOddByFrames(path, random) ? 1 : 0;
            }
        }
        Check.same("some orders are not the plain ones", odd > 20, true);
    }

    /** Paths of eight bends of which five or six, each made last, would let the glass meet itself; no path has seven. */
    private static void narrowPaths() {
        Random random = new Random(8);
        String[] paths = {"e5n1e3n1w5s1w4s2e11", "e1n2e1s2e4s1w7n4e10", "e3n2e1n1w5n1e8s5w10", "e6n5w9s4e1n3e1s5e12",
            "e4n3w12n2e6s1e9s5w17", "e14n9w11s7e7n4e2n2e1", "e13n5w9s4e6n3w4s2u2", "e1n1u4n2d5s4u7n5d11",
            "e13n4w7n1w4s2e9s2w9", "e10n3w5n1w2s2e2s1e4", "e4n5e1n2e1s8w7n10u1", "e1n8e2s4e1s2w2n5u1"};
        int odd = 0;
        for (String path : paths) {
            odd += isOddByFrames(Make.runs(path), random) ? 1 : 0;
        }
        Check.same("paths of which bends by rising numbers cannot be made", odd, 8);
    }

    /** Looks at the order of a path and at some others; whether it is not that by rising numbers. */
    private static boolean isOddByFrames(String path, Random random) {
        Neonworks shop = Make.typed(path);
        shop.tube(8, random.nextInt(1001) - 500, random.nextInt(1001) - 500, 50);
        List<int[]> orders = new ArrayList<>();
        permute(new int[shop.bends(0)], 0, 0, orders);
        Frames frames = new Frames(path);
        String first = null;
        for (int i = 0; i < orders.size() && first == null; i++) {
            first = frames.canBeMade(orders.get(i)) ? digits(orders.get(i)) : null;
        }
        Check.same("order of " + path, orderOf(shop, 0), first);
        for (int i = 0; i < 5; i++) {
            int[] order = orders.get(random.nextInt(orders.size()));
            long told = order.length == 0 ? 0 : Long.parseLong(digits(order));
            Check.same("canBend " + path + " " + told, shop.canBend(0, told), frames.canBeMade(order));
        }
        return orders.get(0).length > 0 && !digits(orders.get(0)).equals(first);
    }

    private static String randomPath(Random random) {
        StringBuilder path = new StringBuilder();
        int runs = 5 + random.nextInt(5);
        int ways = random.nextBoolean() ? 4 : 6;
        int before = -1;
        for (int i = 0; i < runs; i++) {
            int way = random.nextInt(ways);
            while (before >= 0 && way / 2 == before / 2) {
                way = random.nextInt(ways);
            }
            before = way;
            path.append(String.valueOf("ewnsud".charAt(way)).repeat(1 + random.nextInt(6)));
        }
        return path.substring(0, Math.min(path.length(), 60));
    }

    private static void permute(int[] order, int depth, int used, List<int[]> all) {
        if (depth == order.length) {
            all.add(order.clone());
            return;
        }
        for (int i = 0; i < order.length; i++) {
            if ((used >> i & 1) == 0) {
                order[depth] = i;
                permute(order, depth + 1, used | 1 << i, all);
            }
        }
    }

    private static String digits(int[] order) {
        StringBuilder all = new StringBuilder();
        for (int bend : order) {
            all.append(bend + 1);
        }
        return all.toString();
    }

    /** Glass as runs in frames of their own: three columns, what was straight on pointing along the first. */
    private static final class Frames {
        private final List<int[]> ways = new ArrayList<>();
        private final List<Integer> lengths = new ArrayList<>();
        private final List<int[][]> turns = new ArrayList<>();

        Frames(String path) {
            char before = 0;
            for (char letter : path.toCharArray()) {
                if (letter != before) {
                    ways.add(wayOf(letter));
                    lengths.add(0);
                }
                lengths.set(lengths.size() - 1, lengths.get(lengths.size() - 1) + 1);
                before = letter;
            }
            int[][] frame = {{1, 0, 0}, {0, 1, 0}, {0, 0, 1}};
            for (int i = 0; i + 1 < ways.size(); i++) {
                int[][] world = quarter(ways.get(i), ways.get(i + 1));
                turns.add(times(turned(frame), times(world, frame)));
                frame = times(world, frame);
            }
        }

        private static int[] wayOf(char letter) {
            int[] way = new int[3];
            int number = "ewnsud".indexOf(letter);
            way[number / 2] = number % 2 == 0 ? 1 : -1;
            return way;
        }

        /** The quarter turn that takes one way to another: u to v, v to -u, the axis stays. */
        private static int[][] quarter(int[] u, int[] v) {
            int[] axis = {u[1] * v[2] - u[2] * v[1], u[2] * v[0] - u[0] * v[2], u[0] * v[1] - u[1] * v[0]};
            int[][] turn = new int[3][3];
            for (int i = 0; i < 3; i++) {
                for (int j = 0; j < 3; j++) {
                    turn[i][j] = v[i] * u[j] - u[i] * v[j] + axis[i] * axis[j];
                }
            }
            return turn;
        }

        private static int[][] times(int[][] a, int[][] b) {
            int[][] product = new int[3][3];
            for (int i = 0; i < 3; i++) {
                for (int j = 0; j < 3; j++) {
                    for (int k = 0; k < 3; k++) {
                        product[i][j] += a[i][k] * b[k][j];
                    }
                }
            }
            return product;
        }

        private static int[][] turned(int[][] a) {
            int[][] back = new int[3][3];
            for (int i = 0; i < 3; i++) {
                for (int j = 0; j < 3; j++) {
                    back[i][j] = a[j][i];
                }
            }
            return back;
        }

        boolean canBeMade(int[] order) {
            int made = 0;
            for (int bend : order) {
                made |= 1 << bend;
                if (!isFree(made)) {
                    return false;
                }
            }
            return true;
        }

        private boolean isFree(int made) {
            int[][] frame = {{1, 0, 0}, {0, 1, 0}, {0, 0, 1}};
            int[] first = ways.get(0);
            int[] place = new int[3];
            Set<String> seen = new HashSet<>();
            seen.add("0 0 0");
            for (int run = 0; run < ways.size(); run++) {
                for (int i = 0; i < lengths.get(run); i++) {
                    for (int axis = 0; axis < 3; axis++) {
                        place[axis] += frame[axis][0] * first[0] + frame[axis][1] * first[1] + frame[axis][2] * first[2];
                    }
                    if (!seen.add(place[0] + " " + place[1] + " " + place[2])) {
                        return false;
                    }
                }
                if (run < turns.size() && (made >> run & 1) != 0) {
                    frame = times(frame, turns.get(run));
                }
            }
            return true;
        }
    }
}
