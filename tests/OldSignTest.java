import java.util.NoSuchElementException;
import java.util.Random;

/** Promises 48 to 52: marks, traces and what is kept of old tubes. */
public final class OldSignTest {
    private static final Class<IndexOutOfBoundsException> NONE = IndexOutOfBoundsException.class;
    private static final Class<IllegalArgumentException> WRONG = IllegalArgumentException.class;
    private static final Class<NoSuchElementException> MISSING = NoSuchElementException.class;

    public static void main(String[] args) {
        marks();
        withoutMarks();
        equalMoves();
        marksTold();
        likeAllMoves();
        keeping();
        Check.end(OldSignTest.class);
    }

    private static void marks() {
        Neonworks shop = new Neonworks();
        int[][] wrong = {{501, 0}, {-501, 0}, {0, 501}, {0, -501}, {Integer.MIN_VALUE, 0}, {0, Integer.MAX_VALUE}};
        for (int[] place : wrong) {
            Check.fails("mark " + place[0] + " " + place[1], WRONG, () -> shop.mark(place[0], place[1]));
        }
        int[][] edges = {{500, 500}, {-500, -500}, {500, -500}, {-500, 500}};
        for (int i = 0; i < 12; i++) {
            Check.same("mark", shop.mark(edges[i % 4][0], edges[i % 4][1]), i + 1);
        }
        Check.fails("a thirteenth", IllegalStateException.class, () -> shop.mark(0, 0));
        Check.fails("a wrong thirteenth", WRONG, () -> shop.mark(501, 0));
        Make.tube(shop, 8, "e", 500, 0, 0);
        Check.same("each mark found counts, at one place too", shop.fits(0), 3);
    }

    private static void withoutMarks() {
        Neonworks shop = new Neonworks();
        Check.fails("traced of nothing", MISSING, shop::traced);
        shop.mark(0, 0);
        Check.fails("traced without tubes", MISSING, shop::traced);
        Check.fails("fits of no tube", NONE, () -> shop.fits(0));
        Check.fails("trace of no tube", NONE, () -> shop.trace(0, true));
        Neonworks other = new Neonworks();
        Make.tube(other, 8, "ee", 0, 0, 0);
        Check.same("fits without marks", other.fits(0), 0);
        Check.fails("trace without marks", MISSING, () -> other.trace(0, true));
        Check.fails("trace without marks", MISSING, () -> other.trace(0, false));
        Check.fails("trace of no tube without marks", NONE, () -> other.trace(1, true));
        Check.fails("trace of no tube without marks", NONE, () -> other.trace(-1, false));
        Check.fails("fits of no tube", NONE, () -> other.fits(-1));
        Check.fails("traced without marks", MISSING, other::traced);
    }

    private static String trace(Neonworks shop, int tube) {
        return shop.fits(tube) + ": " + shop.trace(tube, true) + " " + shop.trace(tube, false);
    }

    private static void equalMoves() {
        Neonworks shop = new Neonworks();
        Make.tube(shop, 8, "eeee", 0, 0, 0);
        shop.mark(0, 3);
        Check.same("the least amount", trace(shop, 0), "1: 0 3");
        Neonworks around = new Neonworks();
        // The middle is free: moves to the west, south, north and east come to the mark alike.
        Make.tube(around, 8, "eennwws", -1, -1, 0);
        around.mark(0, 0);
        Check.same("the lesser x", trace(around, 0), "1: -1 0");
        Neonworks beside = new Neonworks();
        Make.tube(beside, 8, "eennww", 0, -1, 0);
        beside.mark(0, 0);
        Check.same("the lesser y", trace(beside, 0), "1: 0 -1");
        Neonworks many = new Neonworks();
        Make.tube(many, 8, "eeee", 0, 0, 0);
        many.mark(0, 0);
        many.mark(300, 300);
        many.mark(303, 300);
        Check.same("most marks ahead of the least amount", trace(many, 0), "2: 299 300");
        // Places above each other are one place for marks.
        Neonworks up = new Neonworks();
        Make.tube(up, 8, "uuuue", 0, 0, 0);
        up.mark(5, 5);
        Check.same("a place is found once", trace(up, 0), "1: 4 5");
        up.mark(5, 5);
        Check.same("two marks at a place are two", trace(up, 0), "2: 4 5");
    }

    private static void marksTold() {
        Neonworks shop = new Neonworks();
        Make.tube(shop, 8, "eeee", 0, 0, 0);
        Make.tube(shop, 8, "nnnn", 0, 0, 0);
        Make.tube(shop, 8, "nnnn", 100, 0, 0);
        shop.mark(0, 0);
        Check.same("of several the lowest", shop.traced(), 0);
        shop.mark(0, 4);
        Check.same("the first of the best", shop.traced(), 1);
        Check.same("its trace follows new marks", trace(shop, 1), "2: 0 0");
        shop.mark(4, 0);
        shop.mark(3, 0);
        Check.same("then another one", shop.traced(), 0);
        Check.same("its trace", trace(shop, 0), "3: 0 0");
        Check.same("a tube told later", Make.tube(shop, 8, "nnnneeee", 0, 0, 0) + " " + trace(shop, 3), "3 3: 0 -4");
    }

    private static void likeAllMoves() {
        Random random = new Random(11);
        for (int round = 0; round < 150; round++) {
            Neonworks shop = new Neonworks();
            String path = randomPath(random);
            Make.tube(shop, 8, path, random.nextInt(21) - 10, random.nextInt(21) - 10, 50);
            int marks = 1 + random.nextInt(12);
            int[] x = new int[marks];
            int[] y = new int[marks];
            int wide = 3 + random.nextInt(25);
            for (int i = 0; i < marks; i++) {
                x[i] = random.nextInt(2 * wide) - wide;
                y[i] = random.nextInt(2 * wide) - wide;
                shop.mark(x[i], y[i]);
                if (random.nextInt(4) == 0) {
                    shop.fits(0);
                }
            }
            Check.same("trace of " + path, trace(shop, 0), bestOfAll(shop, path.length(), x, y));
        }
    }

    private static String randomPath(Random random) {
        while (true) {
            StringBuilder path = new StringBuilder();
            int runs = 1 + random.nextInt(9);
            for (int i = 0; i < runs; i++) {
                path.append(String.valueOf("ewnsud".charAt(random.nextInt(6))).repeat(1 + random.nextInt(6)));
            }
            if (path.length() <= 60 && Make.typed(path.toString()).judge(8) == 'g') {
                return path.toString();
            }
        }
    }

    /** Tries all moves from -110 to 110, by rising x, then y. */
    private static String bestOfAll(Neonworks shop, int units, int[] x, int[] y) {
        int most = -1;
        String best = "";
        int least = 0;
        for (int dx = -110; dx <= 110; dx++) {
            for (int dy = -110; dy <= 110; dy++) {
                int count = 0;
                for (int i = 0; i < x.length; i++) {
                    count += comesTo(shop, units, x[i] - dx, y[i] - dy) ? 1 : 0;
                }
                int amount = Math.abs(dx) + Math.abs(dy);
                if (count > most || count == most && amount < least) {
                    most = count;
                    least = amount;
                    best = count + ": " + dx + " " + dy;
                }
            }
        }
        return best;
    }

    private static boolean comesTo(Neonworks shop, int units, int x, int y) {
        for (int i = 0; i <= units; i++) {
            if (shop.at(0, i, 'x') == x && shop.at(0, i, 'y') == y) {
                return true;
            }
        }
        return false;
    }

    private static void keeping() {
        Neonworks shop = new Neonworks();
        Make.tube(shop, 8, "eeeeeee", 0, 0, 0);
        for (int coat = 0; coat < 6; coat++) {
            shop.setCoat(0, coat);
            for (int old = 0; old < 6; old++) {
                for (int kept = 0; kept <= 7; kept++) {
                    boolean due = kept >= 4 && (coat == 0 || coat == old);
                    Check.same("keep " + kept + " " + old + " of " + coat, shop.keep(0, kept, old), due);
                }
            }
        }
        Make.tube(shop, 8, "eeeeee", 0, 0, 0);
        Check.same("just half", shop.keep(1, 3, 0), true);
        Check.same("less than half", shop.keep(1, 2, 0), false);
        int[][] wrong = {{-1, 0}, {8, 0}, {0, -1}, {0, 6}, {Integer.MAX_VALUE, 0}};
        for (int[] told : wrong) {
            Check.fails("keep", WRONG, () -> shop.keep(0, told[0], told[1]));
            Check.fails("keep no tube", NONE, () -> shop.keep(2, told[0], told[1]));
        }
        Check.fails("keep no tube", NONE, () -> shop.keep(-1, 0, 0));
    }
}
