/** Promises 42 to 47: anchors, wind and ice, reach, light, permits and the sky. */
public final class FrameTest {
    private static final Class<IndexOutOfBoundsException> NONE = IndexOutOfBoundsException.class;
    private static final Class<IllegalArgumentException> WRONG = IllegalArgumentException.class;

    public static void main(String[] args) {
        anchors();
        holding();
        longSides();
        reaching();
        lights();
        permits();
        permitsOfGases();
        permitsOfSleepers();
        skies();
        Check.end(FrameTest.class);
    }

    private static Neonworks frame(int width, int height) {
        Neonworks shop = new Neonworks();
        shop.sign(width, height);
        return shop;
    }

    private static void anchors() {
        Neonworks shop = frame(100, 100);
        shop.sign(10, 10);
        Check.same("concrete", shop.anchor(0, 'c', 1), 400);
        Check.same("brick", shop.anchor(0, 'b', 20), 4400);
        Check.same("old brick", shop.anchor(0, 'o', 3), 4640);
        Check.same("another sign", shop.anchor(1, 'o', 1), 80);
        for (char wall : new char[] {'C', 'x', 0}) {
            Check.fails("wall " + wall, WRONG, () -> shop.anchor(0, wall, 1));
        }
        for (int many : new int[] {0, 21, -1, Integer.MAX_VALUE}) {
            Check.fails("many " + many, WRONG, () -> shop.anchor(0, 'c', many));
        }
        Check.fails("no sign", NONE, () -> shop.anchor(2, 'x', 0));
        Check.fails("no sign", NONE, () -> shop.anchor(-1, 'c', 1));
        Check.same("those that threw added nothing", shop.anchor(0, 'c', 1), 5040);
    }

    private static void holding() {
        Neonworks shop = frame(100, 60);
        Check.same("nothing weighs nothing", shop.holds(0, 0, 0), true);
        Check.same("wind without anchors", shop.holds(0, 1, 0), true);
        Check.same("wind without anchors", shop.holds(0, 2, 0), false);
        shop.anchor(0, 'c', 1);
        Check.same("wind of 375", shop.holds(0, 25, 0), true);
        Check.same("wind of 405", shop.holds(0, 26, 0), false);
        Check.same("ice of 400", shop.holds(0, 0, 25), true);
        Check.same("ice of 416", shop.holds(0, 0, 26), false);
        Check.same("wind of 384 and ice of 16", shop.holds(0, 25, 1), true);
        firstGlass();
        // Glass weighs by each tube: 9 units weigh nothing, 10 to 19 weigh 1.
        int[] units = {9, 9, 10, 19, 20};
        int[] weights = {0, 0, 1, 2, 4};
        for (int i = 0; i < units.length; i++) {
            Make.tube(shop, 8, "e".repeat(units[i]), 0, i, 0);
            shop.hang(0, i, 'A');
            Check.same("ice of 400 and glass", shop.holds(0, 0, 25), weights[i] == 0);
            Check.same("ice of 384 and glass", shop.holds(0, 0, 24), true);
        }
        Neonworks edge = frame(40, 56);
        edge.anchor(0, 'o', 1);
        // Ice of 76 by 8 tenths is 76.8, so 76; with glass of 4 it is just held.
        for (int i = 0; i < 4; i++) {
            Make.tube(edge, 8, "eeeeeeeeee", 0, i, 0);
            edge.hang(0, i, 'A');
        }
        Check.same("ice of 76 and glass of 4", edge.holds(0, 0, 8), true);
        int[][] wrong = {{-1, 0}, {101, 0}, {0, -1}, {0, 101}, {Integer.MAX_VALUE, 0}};
        for (int[] weather : wrong) {
            Check.fails("weather", WRONG, () -> shop.holds(0, weather[0], weather[1]));
            Check.fails("no sign", NONE, () -> shop.holds(1, weather[0], weather[1]));
        }
        Check.fails("no sign", NONE, () -> shop.holds(-1, 0, 0));
        Neonworks large = frame(400, 400);
        for (int i = 0; i < 21; i++) {
            large.anchor(0, 'c', 20);
        }
        Check.same("the most wind and ice, by just the 1 of a long side", large.holds(0, 100, 100), false);
        large.anchor(0, 'o', 1);
        Check.same("the most wind and ice", large.holds(0, 100, 100), true);
    }

    private static void firstGlass() {
        Neonworks shop = frame(100, 60);
        shop.anchor(0, 'c', 1);
        Make.tube(shop, 8, "eeeeeeeeee", 0, 0, 0);
        shop.hang(0, 0, 'A');
        Check.same("ice of 400 and one tube", shop.holds(0, 0, 25), false);
        // On a long side 80 bear 79: thirteen tubes of 6 and one of 1.
        Neonworks longer = frame(201, 10);
        longer.anchor(0, 'o', 1);
        for (int i = 0; i < 15; i++) {
            Make.tube(longer, 8, "e".repeat(i < 13 ? 60 : 10), 0, i, 0);
            longer.hang(0, i, 'A');
            Check.same("glass of " + (i + 1) + " tubes on a long side", longer.holds(0, 0, 0), i < 14);
        }
    }

    private static void longSides() {
        int[][] sizes = {{200, 200}, {201, 10}, {10, 201}, {201, 201}};
        for (int[] size : sizes) {
            Neonworks shop = frame(size[0], size[1]);
            boolean isLong = size[0] > 200 || size[1] > 200;
            Check.same("no anchor bears a long side", shop.holds(0, 0, 0), !isLong);
            shop.anchor(0, 'o', 1);
            Check.same("an anchor does", shop.holds(0, 0, 0), true);
        }
        for (int width : new int[] {190, 390}) {
            Neonworks shop = frame(width, 10);
            shop.anchor(0, 'c', 1);
            int ice = 4000 / (width + 10);
            Check.same("just 400 of ice", shop.holds(0, 0, ice), width == 190);
            Check.same("a little less", shop.holds(0, 0, ice - 1), true);
        }
    }

    private static void reaching() {
        Neonworks shop = frame(100, 100);
        shop.sign(100, 100);
        Make.tube(shop, 8, "eeee", 0, 0, 2);
        Make.tube(shop, 8, "nnnn", 2, -2, 3);
        Make.tube(shop, 8, "eeee", 0, 1, 0);
        Make.tube(shop, 8, "nnnn", 50, 0, 0);
        Make.tube(shop, 8, "nnnn", 2, -2, 1);
        for (int i = 0; i < 5; i++) {
            Check.same("without a sign", shop.isReached(i), true);
        }
        shop.hang(0, 0, 'A');
        Check.same("alone on a sign", shop.isReached(0), true);
        shop.hang(1, 1, 'B');
        Check.same("the other sign does not matter", shop.isReached(0), true);
        shop.hang(0, 4, 'C');
        Check.same("a tube nearer to the wall does not matter", shop.isReached(0), true);
        Check.same("it is itself covered", shop.isReached(4), false);
        shop.hang(0, 2, 'D');
        Check.same("covered at one place", shop.isReached(2), false);
        shop.hang(0, 3, 'E');
        Check.same("far off", shop.isReached(3), true);
        // A tube does not cover itself.
        Make.tube(shop, 8, "eeuuuww", 20, 20, 0);
        shop.hang(0, 5, 'F');
        Check.same("over itself", shop.isReached(5), true);
        Make.tube(shop, 8, "uuuu", 24, 20, 0);
        shop.hang(0, 6, 'G');
        Check.same("beside", shop.isReached(6), true);
        Make.tube(shop, 8, "e", 23, 20, 5);
        shop.hang(0, 7, 'H');
        Check.same("below the end of one", shop.isReached(6), false);
        Check.same("over one", shop.isReached(7), true);
        Check.fails("no tube", NONE, () -> shop.isReached(8));
        reachingByPlace();
        Check.fails("no tube", NONE, () -> shop.isReached(-1));
    }

    /** A tube of five places at y 0, z 1, and one place of another one over or beside one of them. */
    private static void reachingByPlace() {
        for (int x = -1; x <= 5; x++) {
            for (int y = -1; y <= 1; y++) {
                for (String other : new String[] {"u", "d"}) {
                    Neonworks shop = frame(100, 100);
                    Make.tube(shop, 8, "eeee", 0, 0, 1);
                    Make.tube(shop, 8, other, x, y, other.equals("u") ? 4 : 5);
                    shop.hang(0, 1, 'A');
                    shop.hang(0, 0, 'B');
                    boolean isOver = y == 0 && x >= 0 && x <= 4;
                    Check.same("reached below " + x + " " + y, shop.isReached(0), !isOver);
                    Check.same("reached above " + x + " " + y, shop.isReached(1), true);
                }
            }
        }
        Neonworks beside = frame(100, 100);
        Make.tube(beside, 8, "eeee", 0, 0, 1);
        Make.tube(beside, 8, "eeee", 0, 1, 2);
        Make.tube(beside, 8, "nn", 4, 1, 3);
        for (int i = 0; i < 3; i++) {
            beside.hang(0, i, 'A');
        }
        Check.same("beside each other", beside.isReached(0), true);
        Check.same("the last place below the first one", beside.isReached(1), false);
    }

    private static void lights() {
        Neonworks shop = frame(100, 100);
        Check.same("light of an empty sign", shop.lightOf(0), 0);
        Make.tube(shop, 8, "eeee", 0, 0, 0);
        Make.tube(shop, 10, "eeeee", 0, 1, 0);
        Make.tube(shop, 8, "ee", 0, 2, 0);
        for (int i = 0; i < 3; i++) {
            shop.hang(0, i, 'A');
        }
        Make.lightUp(shop, 0, 8, 'n');
        Check.same("light of neon, in no row", shop.lightOf(0), 4 * 335);
        shop.setCoat(1, 3);
        Make.lightUp(shop, 1, 10, 'a');
        Check.same("light of both", shop.lightOf(0), 4 * 335 + 5 * 545);
        shop.black(1, 0, 2);
        Check.same("light of both, some black", shop.lightOf(0), 4 * 335 + 3 * 545);
        shop.fill(2, 'n', 16);
        Check.same("one does not light", shop.lightOf(0), 4 * 335 + 3 * 545);
        shop.wet(0, true);
        Check.same("wet", shop.lightOf(0), 4 * 335 + 3 * 545);
        shop.pass(39);
        Check.same("pale", shop.lightOf(0), 4 * 335 + 3 * 545);
        shop.pass(1);
        Check.same("leaked", shop.lightOf(0), 0);
        Check.fails("no sign", NONE, () -> shop.lightOf(1));
        Check.fails("no sign", NONE, () -> shop.lightOf(-1));
    }

    private static void permits() {
        int[] areas = {90000, 40000, 10000, 6000};
        int[] hours = {24, 24, 22, 21};
        int[][] sizes = {{300, 300}, {200, 200}, {100, 100}, {100, 60}, {301, 300}, {200, 201}, {101, 100}, {61, 100},
            {221, 181}, {137, 73}, {353, 17}};
        for (int street = 0; street < 4; street++) {
            for (int[] size : sizes) {
                Neonworks shop = frame(size[0], size[1]);
                for (int hour = 20; hour <= 24; hour++) {
                    char due = size[0] * size[1] > areas[street] ? 'a' : hour > hours[street] ? 'h' : 'y';
                    Check.same("permit in " + street + " to " + hour, shop.permit(0, street, hour, 0), due);
                }
            }
        }
        permitsOfLight();
        Neonworks shop = frame(10, 10);
        int[][] wrong = {{-1, 1, 0}, {4, 1, 0}, {0, 0, 0}, {0, 25, 0}, {0, 1, -1}, {0, 1, 10000}};
        for (int[] asked : wrong) {
            Check.fails("permit", WRONG, () -> shop.permit(0, asked[0], asked[1], asked[2]));
            Check.fails("no sign", NONE, () -> shop.permit(1, asked[0], asked[1], asked[2]));
        }
        Check.fails("no sign", NONE, () -> shop.permit(-1, 0, 1, 0));
        Check.same("the edges", shop.permit(0, 0, 1, 9999), 'y');
    }

    /**
     * A sign of some light, a multiple of 20, or 1 more: three units of neon with white give 1401, a unit of argon
     * with white 690, of argon with ruby glass 60, and of neon with blue glass 20; the units of 690 are even, so that
     * the others can give the rest.
     */
    private static Neonworks shining(int light) {
        Neonworks shop = frame(10, 10);
        int left = light % 20 == 1 ? hangUnits(shop, 3, 'n', 1, light, 467) : light;
        left = hangUnits(shop, left / 690 / 2 * 2, 'a', 1, left, 690);
        left = hangUnits(shop, left / 60, 'a', 4, left, 60);
        left = hangUnits(shop, left / 20, 'n', 5, left, 20);
        Check.same("what is left of a light of " + light, left, 0);
        Check.same("light", shop.lightOf(0), light);
        return shop;
    }

    private static int hangUnits(Neonworks shop, int many, char gas, int coat, int light, int each) {
        for (int left = many; left > 0; left -= 60) {
            int x = (gas == 'n' ? -100 : 100) * coat;
            int tube = Make.tube(shop, 8, "e".repeat(Math.min(60, left)), x, left % 500, 0);
            shop.setCoat(tube, coat);
            Make.lightUp(shop, tube, 8, gas);
            shop.hang(0, tube, 'A');
        }
        return light - many * each;
    }

    private static void permitsOfLight() {
        int[] limits = {90000, 40000, 10000, 5000};
        for (int street = 0; street < 4; street++) {
            Neonworks within = shining(limits[street]);
            Check.same("the limit in " + street, within.permit(0, street, 21, 100), street == 3 ? 'g' : 'y');
            Neonworks justAbove = shining(limits[street] + 1);
            Check.same("just above the limit in " + street, justAbove.permit(0, street, 24, 0), 'l');
            Neonworks above = shining(limits[street] + 20);
            Check.same("above the limit in " + street, above.permit(0, street, 24, 0), 'l');
        }
    }

    private static void permitsOfGases() {
        for (int coat = 0; coat < 6; coat++) {
            for (char gas : new char[] {'n', 'a', '-'}) {
                Neonworks shop = frame(10, 10);
                Make.tube(shop, 8, "ee", 0, 0, 0);
                shop.setCoat(0, coat);
                if (gas != '-') {
                    shop.fill(0, gas, 16);
                }
                Check.same("a tube that hangs nowhere", shop.permit(0, 3, 21, 0), 'y');
                shop.hang(0, 0, 'A');
                Check.same("old street, " + gas + coat, shop.permit(0, 3, 21, 0), gas == 'a' || coat >= 4 ? 'g' : 'y');
                Check.same("hour ahead of gas", shop.permit(0, 3, 22, 0), 'h');
                Check.same("quiet street, " + gas + coat, shop.permit(0, 2, 21, 0), 'y');
            }
        }
    }

    private static void permitsOfSleepers() {
        for (int first = 1; first <= 4; first++) {
            for (int second = 1; second <= 4; second++) {
                for (char relay : new char[] {'d', 'n', 'a', 'o'}) {
                    Neonworks shop = frame(10, 10);
                    shop.cam(first, 0);
                    shop.cam(second, 0);
                    Make.tube(shop, 8, "ee", 0, 0, 0);
                    shop.wire(0, relay, 0, 1);
                    Check.same("a tube that hangs nowhere", shop.permit(0, 2, 22, 0), 'y');
                    shop.hang(0, 0, 'A');
                    boolean isFast = first < 3 || second < 3 && (relay == 'a' || relay == 'o');
                    Check.same("sleeper at 99", shop.permit(0, 2, 22, 99), isFast ? 's' : 'y');
                    Check.same("sleeper at 100", shop.permit(0, 2, 22, 100), 'y');
                    Check.same("sleeper elsewhere", "" + shop.permit(0, 0, 21, 0) + shop.permit(0, 1, 21, 0)
                            + shop.permit(0, 3, 21, 0), "yyy");
                }
            }
        }
    }

    private static void skies() {
        // The light is 20000 and more: with a shield of s, (90 - s) ninetieths of it go up.
        for (int light : new int[] {980, 1000, 1020, 19980, 20000, 20020, 20700}) {
            Neonworks shop = shining(light);
            long all = shop.lightOf(0);
            for (int day : new int[] {1, 79, 80, 100, 150, 151, 239, 240, 310, 311, 366}) {
                for (int hour : new int[] {0, 6, 21, 22, 23}) {
                    for (int shield : new int[] {0, 1, 3, 45, 85, 90}) {
                        boolean isBird = (day >= 80 && day <= 150 || day >= 240 && day <= 310) && hour >= 22;
                        boolean due = all * (90 - shield) < 90L * (isBird ? 1000 : 20000);
                        Check.same("isDark", shop.isDark(0, shield, day, hour), due);
                    }
                }
            }
        }
        Neonworks shop = frame(10, 10);
        int[][] wrong = {{-1, 1, 0}, {91, 1, 0}, {0, 0, 0}, {0, 367, 0}, {0, 1, -1}, {0, 1, 24}};
        for (int[] asked : wrong) {
            Check.fails("isDark", WRONG, () -> shop.isDark(0, asked[0], asked[1], asked[2]));
            Check.fails("no sign", NONE, () -> shop.isDark(1, asked[0], asked[1], asked[2]));
        }
        Check.fails("no sign", NONE, () -> shop.isDark(-1, 0, 1, 0));
    }
}
