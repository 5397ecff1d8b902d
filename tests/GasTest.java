/** Promises 15 to 22: coats, pumping, burning out, filling, states, light, years and leaks. */
public final class GasTest {
    private static final Class<IndexOutOfBoundsException> NO_TUBE = IndexOutOfBoundsException.class;
    private static final Class<IllegalArgumentException> WRONG = IllegalArgumentException.class;
    private static final Class<UnsupportedOperationException> REFUSED = UnsupportedOperationException.class;

    public static void main(String[] args) {
        coats();
        pumping();
        burning();
        filling();
        states();
        lights();
        darkUnits();
        years();
        leaks();
        Check.end(GasTest.class);
    }

    private static Neonworks oneTube(int width) {
        Neonworks shop = new Neonworks();
        Make.tube(shop, width, "eeee", 0, 0, 0);
        return shop;
    }

    private static void coats() {
        Neonworks shop = oneTube(8);
        Check.same("first coat", shop.setCoat(0, 5), 0);
        Check.same("next coat", shop.setCoat(0, 0), 5);
        Check.same("next coat", shop.setCoat(0, 3), 0);
        Check.fails("coat 6", WRONG, () -> shop.setCoat(0, 6));
        Check.fails("coat -1", WRONG, () -> shop.setCoat(0, -1));
        Check.fails("coat of no tube", NO_TUBE, () -> shop.setCoat(1, 6));
        Check.fails("coat of no tube", NO_TUBE, () -> shop.setCoat(-1, 1));
        shop.pump(0, 20);
        shop.burn(0, 200);
        Check.same("coat of a burned tube", shop.setCoat(0, 4), 3);
        shop.fill(0, 'n', 16);
        Check.fails("coat of a filled tube", REFUSED, () -> shop.setCoat(0, 1));
        Check.fails("coat 6 of a filled tube", WRONG, () -> shop.setCoat(0, 6));
        Check.same("the coat stays", shop.light(0, 0, false, 'g'), 0);
    }

    private static void pumping() {
        Neonworks shop = oneTube(8);
        for (int minutes : new int[] {0, -1, 100, Integer.MAX_VALUE}) {
            Check.fails("pump " + minutes, WRONG, () -> shop.pump(0, minutes));
        }
        Check.fails("pump of no tube", NO_TUBE, () -> shop.pump(1, 0));
        for (int minutes = 1; minutes <= 99; minutes++) {
            int rest = 100000;
            for (int i = 1; i <= minutes; i++) {
                rest = i % 10 == 0 ? rest / 2 / 2 : rest / 2;
            }
            Check.same("pump " + minutes, oneTube(8).pump(0, minutes), rest);
        }
        // The tens of minutes count over all pumping of the tube.
        Check.same("pump 5", shop.pump(0, 5), 3125);
        Check.same("pump 4 more", shop.pump(0, 4), 195);
        Check.same("pump 1 more", shop.pump(0, 1), 48);
        Check.same("pump 7 more", shop.pump(0, 7), 0);
        for (int i = 0; i < 50; i++) {
            Check.same("pump on", shop.pump(0, 99), 0);
        }
        shop.fill(0, 'n', 1);
        Check.fails("pump a filled tube", REFUSED, () -> shop.pump(0, 1));
        Check.fails("pump a filled tube for 0", WRONG, () -> shop.pump(0, 0));
    }

    private static void burning() {
        Neonworks shop = oneTube(8);
        Check.fails("burn with air", REFUSED, () -> shop.burn(0, 300));
        Check.fails("burn at 401", WRONG, () -> shop.burn(0, 401));
        Check.fails("burn at -1", WRONG, () -> shop.burn(0, -1));
        Check.fails("burn no tube", NO_TUBE, () -> shop.burn(1, -1));
        shop.pump(0, 9);
        Check.fails("burn with a rest of 195", REFUSED, () -> shop.burn(0, 300));
        shop.pump(0, 1);
        Check.same("burn at 0", shop.burn(0, 0), false);
        Check.same("burn at 199", shop.burn(0, 199), false);
        Check.same("state", shop.stateOf(0), 'p');
        Check.same("burn at 200", shop.burn(0, 200), true);
        Check.same("burned out before", shop.burn(0, 0), true);
        Check.same("burn at 400", shop.burn(0, 400), true);
        Check.same("pumped on", shop.pump(0, 3), 6);
        Check.same("state", shop.stateOf(0), 'o');
        shop.fill(0, 'a', 16);
        Check.fails("burn a filled tube", REFUSED, () -> shop.burn(0, 200));
        Check.fails("burn a filled tube at 401", WRONG, () -> shop.burn(0, 401));
    }

    private static void filling() {
        int[] widths = {8, 10, 12, 15};
        int[] right = {16, 14, 12, 10};
        for (int i = 0; i < 4; i++) {
            for (int pressure = 1; pressure <= 99; pressure++) {
                Neonworks shop = oneTube(widths[i]);
                shop.pump(0, 20);
                shop.burn(0, 200);
                int off = Math.abs(pressure - right[i]);
                Check.same("fill " + pressure, shop.fill(0, pressure % 2 == 0 ? 'n' : 'a', pressure), off);
                Check.same("state by pressure " + pressure, shop.stateOf(0), off <= 3 ? 'l' : 'x');
            }
        }
        Neonworks shop = oneTube(8);
        Check.fails("fill with x", WRONG, () -> shop.fill(0, 'x', 16));
        Check.fails("fill with N", WRONG, () -> shop.fill(0, 'N', 16));
        Check.fails("fill to 0", WRONG, () -> shop.fill(0, 'n', 0));
        Check.fails("fill to 100", WRONG, () -> shop.fill(0, 'a', 100));
        Check.fails("fill no tube", NO_TUBE, () -> shop.fill(1, 'x', 0));
        Check.same("it is bent alone", shop.stateOf(0), 'b');
        shop.fill(0, 'n', 16);
        Check.same("not burned out, it does not light", shop.stateOf(0), 'x');
        Check.fails("fill again", REFUSED, () -> shop.fill(0, 'n', 16));
        Check.fails("fill again with x", WRONG, () -> shop.fill(0, 'x', 16));
    }

    private static void states() {
        Neonworks shop = oneTube(8);
        Check.same("bent", shop.stateOf(0), 'b');
        shop.pump(0, 1);
        Check.same("pumped", shop.stateOf(0), 'p');
        shop.pump(0, 20);
        shop.burn(0, 250);
        Check.same("burned out", shop.stateOf(0), 'o');
        shop.fill(0, 'n', 16);
        Check.same("it lights", shop.stateOf(0), 'l');
        shop.pass(19);
        Check.same("at 19", shop.stateOf(0) + "" + shop.leaked(0), "l19");
        shop.pass(1);
        Check.same("at 20", shop.stateOf(0) + "" + shop.leaked(0), "f20");
        shop.pass(19);
        Check.same("at 39", shop.stateOf(0) + "" + shop.leaked(0), "f39");
        Check.same("light at 39", shop.light(0, 0, false, 'r'), 255);
        shop.pass(1);
        Check.same("at 40", shop.stateOf(0) + "" + shop.leaked(0), "x40");
        Check.same("light at 40", shop.light(0, 0, false, 'r'), 0);
        Check.fails("state of no tube", NO_TUBE, () -> shop.stateOf(1));
        Check.fails("state of no tube", NO_TUBE, () -> shop.stateOf(-1));
    }

    private static void lights() {
        String[] neon = {"255 60 20", "227 130 110", "255 60 20", "255 60 20", "255 0 0", "0 0 20"};
        String[] argon = {"60 100 255", "230 230 230", "60 255 90", "255 120 170", "60 0 0", "0 0 255"};
        for (int coat = 0; coat < 6; coat++) {
            for (char gas : new char[] {'n', 'a'}) {
                Neonworks shop = oneTube(12);
                shop.setCoat(0, coat);
                Make.lightUp(shop, 0, 12, gas);
                String[] due = (gas == 'n' ? neon : argon)[coat].split(" ");
                for (int part = 0; part < 3; part++) {
                    int full = Integer.parseInt(due[part]);
                    String what = "light of " + gas + coat + " " + part;
                    Check.same(what, shop.light(0, 3, false, "rgb".charAt(part)), full);
                    Check.same(what + " by day", shop.light(0, 0, true, "rgb".charAt(part)), full / 3);
                }
            }
        }
    }

    private static void darkUnits() {
        Neonworks shop = oneTube(8);
        Check.same("light of an empty tube", shop.light(0, 0, false, 'r'), 0);
        Make.lightUp(shop, 0, 8, 'n');
        shop.black(0, 1, 3);
        Check.same("units", "" + shop.light(0, 0, false, 'r') + " " + shop.light(0, 1, false, 'r') + " "
                + shop.light(0, 2, false, 'r') + " " + shop.light(0, 3, false, 'r'), "255 0 0 255");
        Check.fails("unit 4", WRONG, () -> shop.light(0, 4, false, 'r'));
        Check.fails("unit -1", WRONG, () -> shop.light(0, -1, false, 'r'));
        Check.fails("part x", WRONG, () -> shop.light(0, 0, false, 'x'));
        Check.fails("part x of a black unit", WRONG, () -> shop.light(0, 1, false, 'x'));
        Check.fails("no tube", NO_TUBE, () -> shop.light(1, 9, false, 'x'));
        Check.fails("no tube", NO_TUBE, () -> shop.light(-1, 0, false, 'r'));
    }

    private static void years() {
        Neonworks shop = new Neonworks();
        for (int years : new int[] {0, -1, 51, Integer.MIN_VALUE, Integer.MAX_VALUE}) {
            Check.fails("pass " + years, WRONG, () -> shop.pass(years));
        }
        for (int i = 1; i <= 19; i++) {
            Check.same("pass 50", shop.pass(50), 50 * i);
        }
        Check.same("pass 1", shop.pass(1), 951);
        Make.tube(shop, 8, "ee", 0, 0, 0);
        Make.lightUp(shop, 0, 8, 'n');
        Check.fails("pass to 1001", IllegalStateException.class, () -> shop.pass(50));
        Check.same("no year went by", shop.year() + " " + shop.leaked(0), "951 0");
        Check.same("pass to 1000", shop.pass(49), 1000);
        Check.fails("pass to 1001", IllegalStateException.class, () -> shop.pass(1));
        Check.fails("pass 0 in the last year", WRONG, () -> shop.pass(0));
        Check.same("year", shop.year(), 1000);
    }

    private static void leaks() {
        // Rests of 100000, 195, 48 and 6; a stair of 7 bends has a heat of 70, one of 6 of 60.
        String[] paths = {"eeee", "eeee", "eeee", "eeee", "enenenen", "enenene"};
        int[] minutes = {0, 9, 10, 13, 20, 20};
        int[] due = {10001, 20, 5, 1, 4, 1};
        Neonworks shop = new Neonworks();
        for (int i = 0; i < paths.length; i++) {
            Make.tube(shop, 8, paths[i], 0, 10 * i, 0);
            if (minutes[i] > 0) {
                shop.pump(i, minutes[i]);
            }
            shop.fill(i, 'n', 16);
        }
        Make.tube(shop, 8, "ee", 100, 0, 0);
        shop.pump(6, 1);
        for (int year = 1; year <= 3; year++) {
            shop.pass(1);
            for (int i = 0; i < paths.length; i++) {
                Check.same("leaked " + i, shop.leaked(i), due[i] * year);
            }
        }
        shop.pass(50);
        for (int i = 0; i < paths.length; i++) {
            Check.same("leaked " + i, shop.leaked(i), due[i] * 53);
        }
        Check.same("leaked into a tube that is not filled", shop.leaked(6), 0);
        Check.fails("leaked of no tube", NO_TUBE, () -> shop.leaked(7));
        Check.fails("leaked of no tube", NO_TUBE, () -> shop.leaked(-1));
    }
}
