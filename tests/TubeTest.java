/** Promises 6 to 11: tubes, their units and places, tubes that meet, blacked units and bends. */
public final class TubeTest {
    private static final Class<IndexOutOfBoundsException> NO_TUBE = IndexOutOfBoundsException.class;
    private static final Class<IllegalArgumentException> WRONG = IllegalArgumentException.class;
    private static final Class<UnsupportedOperationException> REFUSED = UnsupportedOperationException.class;

    public static void main(String[] args) {
        making();
        refusing();
        atMostTwenty();
        places();
        meeting();
        blacking();
        bending();
        Check.end(TubeTest.class);
    }

    private static void making() {
        Neonworks shop = Make.typed("een");
        Check.same("first tube", shop.tube(8, 1, 2, 3), 0);
        Check.same("the path is empty then", shop.judge(8), '-');
        Check.same("units", shop.units(0), 3);
        Check.same("second tube", Make.tube(shop, 15, "ee", 0, 0, 0), 1);
        Check.same("units of the second", shop.units(1), 2);
        Check.fails("units of a third", NO_TUBE, () -> shop.units(2));
        Check.fails("units of -1", NO_TUBE, () -> shop.units(-1));
        Check.same("all units", shop.allUnits(), 5);
        Check.same("corner", Make.tube(shop, 10, "e", 500, -500, 50), 2);
        Check.same("corner", Make.tube(shop, 12, "e", -500, 500, 0), 3);
    }

    private static void refusing() {
        Neonworks shop = Make.typed("enne");
        for (int width = 0; width < 20; width++) {
            int asked = width;
            if (width != 8 && width != 10 && width != 12 && width != 15) {
                Check.fails("tube of width " + width, WRONG, () -> shop.tube(asked, 0, 0, 0));
            }
        }
        int[][] far = {{501, 0, 0}, {-501, 0, 0}, {0, 501, 0}, {0, -501, 0}, {0, 0, -1}, {0, 0, 51},
            {Integer.MIN_VALUE, 0, 0}, {0, Integer.MAX_VALUE, 0}};
        for (int[] place : far) {
            Check.fails("tube far away", WRONG, () -> shop.tube(8, place[0], place[1], place[2]));
        }
        Check.fails("inner run too short", REFUSED, () -> shop.tube(15, 0, 0, 0));
        Check.same("the path stays", shop.erase(), 4);
        Check.fails("empty", REFUSED, () -> shop.tube(8, 0, 0, 0));
        for (String bad : new String[] {"ew", "eennwwss", "enenenenen"}) {
            Make.typed(shop, bad);
            Check.fails("a tube of " + bad, REFUSED, () -> shop.tube(8, 0, 0, 0));
            Check.fails("a tube of " + bad + " too far", WRONG, () -> shop.tube(8, 501, 0, 0));
            shop.erase();
        }
        Make.typed(shop, "eddeu");
        Check.fails("below the wall", REFUSED, () -> shop.tube(8, 0, 0, 1));
        Check.fails("below the wall", REFUSED, () -> shop.tube(8, 0, 0, 0));
        Check.same("on the wall", shop.tube(8, 0, 0, 2), 0);
        Check.same("its lowest place", shop.at(0, 3, 'z'), 0);
        Make.typed(shop, "d");
        Check.fails("the first letter below the wall", REFUSED, () -> shop.tube(8, 0, 0, 0));
        shop.erase();
        Make.typed(shop, "uedd");
        Check.fails("up and below the wall", REFUSED, () -> shop.tube(8, 0, 0, 0));
        Check.same("up and to the wall", shop.tube(8, 0, 0, 1), 1);
    }

    private static void atMostTwenty() {
        Neonworks shop = new Neonworks();
        for (int i = 0; i < 20; i++) {
            Check.same("tube " + i, Make.tube(shop, 8, "ee", 0, i, 0), i);
        }
        Check.fails("no path ahead of too many", REFUSED, () -> shop.tube(8, 0, 0, 0));
        shop.type('e');
        Check.fails("a wrong width ahead of too many", WRONG, () -> shop.tube(9, 0, 0, 0));
        Check.fails("too many", IllegalStateException.class, () -> shop.tube(8, 0, 0, 0));
        Check.same("the path stays", shop.erase(), 1);
        Check.same("all units", shop.allUnits(), 40);
    }

    private static void places() {
        Neonworks shop = new Neonworks();
        String path = "euuwwnnddss";
        Make.tube(shop, 8, path, -500, 500, 50);
        int x = -500;
        int y = 500;
        int z = 50;
        for (int i = 0; i <= path.length(); i++) {
            Check.same("x of " + i, shop.at(0, i, 'x'), x);
            Check.same("y of " + i, shop.at(0, i, 'y'), y);
            Check.same("z of " + i, shop.at(0, i, 'z'), z);
            if (i < path.length()) {
                char way = path.charAt(i);
                x += way == 'e' ? 1 : way == 'w' ? -1 : 0;
                y += way == 'n' ? 1 : way == 's' ? -1 : 0;
                z += way == 'u' ? 1 : way == 'd' ? -1 : 0;
            }
        }
        Check.fails("place -1", WRONG, () -> shop.at(0, -1, 'x'));
        Check.fails("place 12", WRONG, () -> shop.at(0, 12, 'x'));
        Check.fails("axis X", WRONG, () -> shop.at(0, 0, 'X'));
        Check.fails("tube 1", NO_TUBE, () -> shop.at(1, 0, 'x'));
        Check.fails("tube -1 ahead of a wrong axis", NO_TUBE, () -> shop.at(-1, 99, 'q'));
        Neonworks edges = new Neonworks();
        Make.tube(edges, 8, "w".repeat(60), -500, 0, 0);
        Make.tube(edges, 8, "n".repeat(60), 0, 500, 0);
        Make.tube(edges, 8, "u".repeat(60), 0, 0, 50);
        Check.same("farthest x", edges.at(0, 60, 'x'), -560);
        Check.same("farthest y", edges.at(1, 60, 'y'), 560);
        Check.same("farthest z", edges.at(2, 60, 'z'), 110);
    }

    private static void meeting() {
        Neonworks shop = new Neonworks();
        Make.tube(shop, 8, "eeee", 0, 0, 0);
        Make.tube(shop, 8, "nnnn", 2, -2, 0);
        Make.tube(shop, 8, "nnnn", 2, -2, 1);
        Make.tube(shop, 8, "ee", 4, 0, 0);
        Make.tube(shop, 8, "ee", 5, 0, 0);
        Make.tube(shop, 8, "uu", 0, 0, 0);
        boolean[][] meets = new boolean[6][6];
        meets[0][1] = true;
        meets[0][3] = true;
        meets[0][5] = true;
        meets[3][4] = true;
        for (int i = 0; i < 6; i++) {
            for (int j = 0; j < 6; j++) {
                if (i != j) {
                    Check.same("meet " + i + " " + j, shop.meet(i, j), meets[i][j] || meets[j][i]);
                }
            }
        }
        Check.fails("meet itself", WRONG, () -> shop.meet(3, 3));
        Check.fails("meet 0 6", NO_TUBE, () -> shop.meet(0, 6));
        Check.fails("meet 6 0", NO_TUBE, () -> shop.meet(6, 0));
        Check.fails("meet 6 6", NO_TUBE, () -> shop.meet(6, 6));
        Check.fails("meet -1 -1", NO_TUBE, () -> shop.meet(-1, -1));
    }

    private static void blacking() {
        Neonworks shop = new Neonworks();
        Make.tube(shop, 8, "eeeeeeeeee", 0, 0, 0);
        Check.same("black one", shop.black(0, 0, 1), 1);
        Check.same("black some", shop.black(0, 3, 6), 4);
        Check.same("black over others", shop.black(0, 2, 7), 6);
        Check.same("black the last", shop.black(0, 9, 10), 7);
        Check.fails("black none", WRONG, () -> shop.black(0, 5, 5));
        Check.fails("black backwards", WRONG, () -> shop.black(0, 5, 4));
        Check.fails("black from -1", WRONG, () -> shop.black(0, -1, 4));
        Check.fails("black to 11", WRONG, () -> shop.black(0, 0, 11));
        Check.fails("black from 10", WRONG, () -> shop.black(0, 10, 11));
        Check.fails("black of no tube", NO_TUBE, () -> shop.black(1, 0, 1));
        Check.fails("black of no tube, backwards", NO_TUBE, () -> shop.black(-1, 1, 0));
        Check.same("those that threw blacked nothing", shop.black(0, 0, 1), 7);
        Check.same("black all", shop.black(0, 0, 10), 10);
    }

    private static void bending() {
        Neonworks shop = new Neonworks();
        String[] paths = {"e", "eeee", "en", "eennee", "enenenene"};
        int[] due = {0, 0, 1, 2, 8};
        for (int i = 0; i < 5; i++) {
            Make.tube(shop, 8, paths[i], 0, 20 * i, 0);
            Check.same("bends of " + paths[i], shop.bends(i), due[i]);
        }
        Check.fails("bends of no tube", NO_TUBE, () -> shop.bends(5));
        Check.fails("bends of no tube", NO_TUBE, () -> shop.bends(-1));
        Check.same("mean of the bends", shop.meanBends(), 11 / 5.0);
    }
}
