import java.util.Random;

/** Promises 53 to 55: rain, days of hanging and hours of bending. */
public final class WeekTest {
    private static final Class<IndexOutOfBoundsException> NONE = IndexOutOfBoundsException.class;
    private static final Class<IllegalArgumentException> WRONG = IllegalArgumentException.class;
    private static final Class<UnsupportedOperationException> REFUSED = UnsupportedOperationException.class;
    private static final int[] WIDE = {0, 100, 200, 300, 400, -100};

    public static void main(String[] args) {
        raining();
        bending();
        hanging();
        installers();
        longSigns();
        likeHourByHour();
        Check.end(WeekTest.class);
    }

    private static void raining() {
        Neonworks shop = new Neonworks();
        for (int day : new int[] {-1, 31, Integer.MAX_VALUE, Integer.MIN_VALUE}) {
            Check.fails("rain on " + day, WRONG, () -> shop.rain(day, true));
        }
        for (int day = 0; day <= 30; day++) {
            Check.same("rain", shop.rain(day, true), false);
            Check.same("rain", shop.rain(day, day % 2 == 0), true);
        }
        for (int day = 0; day <= 30; day++) {
            Check.same("rain", shop.rain(day, false), day % 2 == 0);
            Check.same("rain", shop.rain(day, false), false);
        }
    }

    private static Neonworks signs(int many) {
        Neonworks shop = new Neonworks();
        for (int i = 0; i < many; i++) {
            shop.sign(100, 100);
        }
        return shop;
    }

    private static void bending() {
        Neonworks shop = signs(2);
        // Heats of 0, 10, 20, 80 and 40: 1, 1, 2, 5 and 3 hours.
        String[] paths = {"e", "en", "ene", "enenenene", "enene"};
        for (int i = 0; i < paths.length; i++) {
            Make.tube(shop, 8, paths[i], 0, 20 * i, 0);
            int tube = i;
            Check.fails("bentAt of one that hangs nowhere", REFUSED, () -> shop.bentAt(tube));
        }
        shop.hang(1, 3, 'A');
        Check.same("alone", shop.bentAt(3), 5);
        shop.hang(0, 4, 'A');
        Check.same("ahead of it", shop.bentAt(4) + " " + shop.bentAt(3), "3 8");
        shop.hang(0, 0, 'A');
        shop.hang(1, 1, 'A');
        shop.hang(0, 2, 'A');
        Check.same("by signs, then by their order", shop.bentAt(4) + " " + shop.bentAt(0) + " " + shop.bentAt(2)
                + " " + shop.bentAt(3) + " " + shop.bentAt(1), "3 4 6 11 12");
        Check.fails("bentAt of no tube", NONE, () -> shop.bentAt(5));
        Check.fails("bentAt of no tube", NONE, () -> shop.bentAt(-1));
    }

    private static void hanging() {
        Neonworks shop = signs(1);
        Check.same("an empty sign", shop.hungOn(0), 0);
        Check.fails("no sign", NONE, () -> shop.hungOn(1));
        Check.fails("no sign", NONE, () -> shop.hungOn(-1));
        shop.rain(0, true);
        Check.same("rain on day 0", shop.hungOn(0), 1);
        shop.rain(1, true);
        shop.rain(3, true);
        Check.same("rain on days 0 and 1", shop.hungOn(0), 2);
        for (int day = 0; day <= 30; day++) {
            shop.rain(day, true);
        }
        Check.same("rain on all days", shop.hungOn(0), 31);
        // 2 hours at the earliest at the hour 6 fit into day 0, at 7 they do not.
        for (int tubes = 6; tubes <= 7; tubes++) {
            Neonworks edge = signs(1);
            for (int i = 0; i < tubes; i++) {
                Make.tube(edge, 8, "e", 0, i, 0);
                edge.hang(0, i, 'A');
            }
            Check.same("bent at " + tubes, edge.bentAt(tubes - 1) + " " + edge.hungOn(0), tubes + " " + (tubes - 6));
        }
        // 39 units take 2 hours, 40 take 3.
        for (int units = 39; units <= 40; units++) {
            Neonworks edge = signs(1);
            Make.tube(edge, 8, "e".repeat(units - 5), 0, 0, 0);
            edge.hang(0, 0, 'A');
            for (int i = 1; i <= 5; i++) {
                Make.tube(edge, 8, "e", 0, i, 0);
                edge.hang(0, i, 'A');
            }
            Check.same("a sign of " + units, edge.hungOn(0), units - 39);
        }
    }

    private static void installers() {
        // Empty signs take 2 hours each: with day 0 to its end, six of them fit by two for each installer.
        Neonworks shop = signs(6);
        for (int i = 0; i < 6; i++) {
            Check.same("empty sign " + i, shop.hungOn(i), 0);
        }
        // Signs of 120 units take 5 hours, so an installer hangs one in a day; bending takes 2 hours a sign.
        Neonworks large = signs(6);
        for (int i = 0; i < 12; i++) {
            Make.tube(large, 8, "e".repeat(60), WIDE[i % 6], i, 0);
            large.hang(i / 2, i, 'A');
        }
        int[] due = {0, 1, 1, 1, 2, 2};
        for (int i = 0; i < 6; i++) {
            Check.same("large sign " + i, large.hungOn(i), due[i]);
        }
        large.rain(1, true);
        int[] wetDue = {0, 2, 2, 2, 3, 3};
        for (int i = 0; i < 6; i++) {
            Check.same("large sign with rain " + i, large.hungOn(i), wetDue[i]);
        }
    }

    private static void longSigns() {
        // 279 units take 8 hours, 280 take 9.
        Neonworks shop = signs(2);
        int[] units = {60, 60, 60, 60, 39};
        for (int i = 0; i < units.length; i++) {
            Make.tube(shop, 8, "e".repeat(units[i]), 0, i, 0);
            shop.hang(1, i, 'A');
        }
        Check.same("8 hours", shop.hungOn(1), 1);
        Check.same("the other", shop.hungOn(0), 0);
        Make.tube(shop, 8, "e", 0, 9, 0);
        Check.same("one that does not hang", shop.hungOn(1), 1);
        shop.hang(1, 5, 'A');
        Check.fails("9 hours", REFUSED, () -> shop.hungOn(1));
        Check.fails("9 hours of another sign", REFUSED, () -> shop.hungOn(0));
        Check.fails("no sign", NONE, () -> shop.hungOn(2));
        Check.same("it can be bent all the same", shop.bentAt(5), 6);
        Neonworks first = signs(2);
        for (int i = 0; i < 5; i++) {
            Make.tube(first, 8, "e".repeat(60), 0, i, 0);
            first.hang(0, i, 'A');
        }
        Check.fails("9 hours of the first sign", REFUSED, () -> first.hungOn(1));
    }

    private static void likeHourByHour() {
        Random random = new Random(3);
        String[] paths = {"e", "en", "ene", "enene", "enenenene", "e".repeat(60), Make.runs("e20n20e20")};
        for (int round = 0; round < 300; round++) {
            int many = 1 + random.nextInt(6);
            Neonworks shop = signs(many);
            int[] bent = new int[many];
            int[] units = new int[many];
            boolean[] hasTubes = new boolean[many];
            int tubes = random.nextInt(21);
            int[] home = new int[tubes];
            for (int i = 0; i < tubes; i++) {
                String path = paths[random.nextInt(paths.length)];
                Make.tube(shop, 8, path, 0, -400 + 40 * i, 0);
                home[i] = random.nextInt(many);
                if (units[home[i]] + path.length() < 280) {
                    shop.hang(home[i], i, 'A');
                    units[home[i]] += path.length();
                    bent[home[i]] += shop.heat(i) / 20 + 1;
                    hasTubes[home[i]] = true;
                }
            }
            boolean[] rain = new boolean[31];
            for (int i = 0; i < 31; i++) {
                rain[i] = random.nextInt(3) == 0;
                shop.rain(i, rain[i]);
            }
            int[] due = daysByHours(bent, units, hasTubes, rain);
            for (int i = 0; i < many; i++) {
                Check.same("hungOn " + i, shop.hungOn(i), due[i]);
            }
        }
    }

    private static int[] daysByHours(int[] bent, int[] units, boolean[] hasTubes, boolean[] rain) {
        int[] free = new int[3];
        int[] days = new int[bent.length];
        int ready = 0;
        for (int i = 0; i < bent.length; i++) {
            ready += bent[i];
            int who = free[0] <= free[1] && free[0] <= free[2] ? 0 : free[1] <= free[2] ? 1 : 2;
            int hours = 2 + units[i] / 40;
            int hour = 0;
            while (hour < free[who] || hasTubes[i] && hour < ready || hour % 8 + hours > 8
                    || hour / 8 <= 30 && rain[hour / 8]) {
                hour++;
            }
            free[who] = hour + hours;
            days[i] = hour / 8;
        }
        return days;
    }
}
