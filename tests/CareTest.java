import java.util.NoSuchElementException;

/** Promises 56 to 64: burning hours, ages, the next to make anew, spares, and what holds of the whole shop. */
public final class CareTest {
    private static final Class<IndexOutOfBoundsException> NONE = IndexOutOfBoundsException.class;
    private static final Class<IllegalArgumentException> WRONG = IllegalArgumentException.class;

    public static void main(String[] args) {
        burning();
        burningCuts();
        nextByAge();
        nextByHeatAndLeaks();
        spares();
        sparesTakeThePlace();
        yearsAndUnits();
        shares();
        soundness();
        Check.end(CareTest.class);
    }

    private static Neonworks litShop(int tubes) {
        Neonworks shop = new Neonworks();
        shop.sign(100, 100);
        shop.transformer(15000);
        for (int i = 0; i < tubes; i++) {
            Make.bright(shop, i, 'a');
            shop.load(0, i);
            shop.hang(0, i, 'A');
        }
        return shop;
    }

    private static void burning() {
        Neonworks shop = litShop(3);
        shop.cam(1, 1);
        shop.cam(2, 1);
        shop.wire(0, 'd', 0, 0);
        shop.wire(1, 'd', 1, 0);
        Check.same("burn 9999 hours", shop.burnFor(0, 9999), 9999 + 4999);
        Check.same("ages", shop.age(0) + " " + shop.age(1) + " " + shop.age(2), "9999 4999 0");
        Check.same("burn 1 hour", shop.burnFor(0, 1), 10000 + 4999);
        Check.same("burn 2 hours", shop.burnFor(0, 2), 10002 + 5000);
        for (int hours : new int[] {0, -1, 10000, Integer.MAX_VALUE}) {
            Check.fails("burn " + hours, WRONG, () -> shop.burnFor(0, hours));
            Check.fails("burn no sign " + hours, NONE, () -> shop.burnFor(1, hours));
        }
        Check.fails("burn no sign", NONE, () -> shop.burnFor(-1, 1));
        Check.same("those that threw burned nothing", shop.age(0) + " " + shop.age(1), "10002 5000");
        Check.fails("age of no tube", NONE, () -> shop.age(3));
        Check.fails("age of no tube", NONE, () -> shop.age(-1));
        shop.sign(10, 10);
        Check.same("burn an empty sign", shop.burnFor(1, 100), 0);
        // A tube in a row that does not light does not age.
        Make.tube(shop, 8, "e", 0, 50, 0);
        shop.load(0, 3);
        Check.same("burn a dark sign", shop.burnFor(0, 1000), 15002);
        Make.bright(shop, 60, 'a');
        shop.hang(1, 4, 'B');
        shop.wire(4, 'd', 0, 0);
        Check.same("burn a tube in no row", shop.burnFor(1, 1000), 0);
    }

    private static void burningCuts() {
        // In 0 to 359 a period of 7 with only its first second is lit 52 times, with its last one 51 times.
        int[][] cams = {{7, 1, 52}, {7, 64, 51}, {11, 1, 33}, {11, 1024, 32}, {12, 2048, 30}, {9, 3, 80}};
        for (int[] cam : cams) {
            for (int hours : new int[] {1, 7, 100, 9999}) {
                Neonworks shop = litShop(1);
                shop.cam(cam[0], cam[1]);
                shop.wire(0, 'd', 0, 0);
                Check.same("burn by " + cam[0], shop.burnFor(0, hours), hours * cam[2] / 360);
                shop.burnFor(0, hours);
                Check.same("cut each time", shop.age(0), hours * cam[2] / 360 * 2);
            }
        }
    }

    private static void nextByAge() {
        Neonworks empty = new Neonworks();
        Check.fails("next of nothing", NoSuchElementException.class, empty::next);
        Neonworks shop = litShop(3);
        shop.cam(1, 1);
        Check.same("of several the lowest", shop.next(), 0);
        shop.wire(1, 'd', 0, 0);
        shop.burnFor(0, 99);
        Check.same("99 hours count as none", shop.next(), 0);
        shop.burnFor(0, 1);
        Check.same("100 hours count", shop.next(), 1);
        shop.wire(2, 'd', 0, 0);
        shop.wire(1, 'n', 0, 0);
        shop.burnFor(0, 199);
        Check.same("199 hours count as 100", shop.next(), 1);
        shop.burnFor(0, 1);
        Check.same("200 hours", shop.next(), 2);
    }

    private static void nextByHeatAndLeaks() {
        Neonworks shop = litShop(1);
        Make.tube(shop, 8, "en", 0, 20, 0);
        Check.same("by heat", shop.next(), 1);
        shop.cam(1, 1);
        shop.wire(0, 'd', 0, 0);
        shop.burnFor(0, 1000);
        Check.same("1000 hours are like a heat of 10", shop.next(), 0);
        Make.tube(shop, 8, "enenen", 0, 40, 0);
        Check.same("a heat of 50", shop.next(), 2);
        shop.pass(1);
        Check.same("10 and 20 are less than 50", shop.next(), 2);
        shop.pass(1);
        Check.same("10 and 40 are 50", shop.next(), 0);
        // A spiral of which a bend is made out of turn is hotter than a stair of as many bends.
        Neonworks spiral = new Neonworks();
        Make.tube(spiral, 8, "enene", 0, 0, 0);
        Make.tube(spiral, 8, Make.runs("e3n3w3s2w1"), 0, 40, 0);
        Check.same("by the heat of the order", spiral.next() + " " + spiral.heat(0) + " " + spiral.heat(1), "1 40 45");
    }

    private static void spares() {
        Neonworks shop = litShop(2);
        shop.cam(1, 1);
        shop.wire(0, 'd', 0, 0);
        shop.burnFor(0, 500);
        shop.pass(5);
        Check.same("leaked", shop.leaked(0), 5);
        Check.same("spare", shop.spare(0), 500);
        Check.same("the spare", shop.age(0) + " " + shop.stateOf(0) + " " + shop.leaked(0), "0 b 0");
        Check.same("a spare of the spare", shop.spare(0), 0);
        Check.same("the row is dark", shop.rowLights(0), false);
        Check.fails("it is not filled", UnsupportedOperationException.class, () -> shop.volts(0));
        Check.fails("it has all its air", UnsupportedOperationException.class, () -> shop.burn(0, 300));
        Check.same("pumped anew", shop.pump(0, 1), 50000);
        shop.pump(0, 19);
        shop.burn(0, 200);
        Check.same("filled anew", shop.fill(0, 'a', 16), 0);
        Check.same("it lights", shop.stateOf(0), 'l');
        Check.same("the other is as it was", shop.leaked(1), 5);
        Check.fails("spare of no tube", NONE, () -> shop.spare(2));
        Check.fails("spare of no tube", NONE, () -> shop.spare(-1));
    }

    private static void sparesTakeThePlace() {
        Neonworks shop = litShop(1);
        shop.cam(1, 1);
        shop.wire(0, 'd', 0, 0);
        shop.black(0, 0, 2);
        shop.spare(0);
        Check.same("its place", shop.at(0, 4, 'x') + " " + shop.units(0) + " " + shop.allUnits(), "4 4 4");
        Check.fails("it hangs", UnsupportedOperationException.class, () -> shop.hang(0, 0, 'A'));
        Check.fails("it is in a row", UnsupportedOperationException.class, () -> shop.load(0, 0));
        Check.same("it is wired", shop.wire(0, 'd', 0, 0), false);
        Make.lightUp(shop, 0, 8, 'n');
        Check.same("its letter", shop.letterAt(0, 0, 0), 'A');
        Check.same("its black units", shop.light(0, 1, false, 'r') + " " + shop.light(0, 2, false, 'r'), "0 255");
        Neonworks coated = litShop(0);
        Make.tube(coated, 8, "ee", 0, 0, 0);
        coated.setCoat(0, 3);
        coated.spare(0);
        Check.same("its coat", coated.setCoat(0, 1), 3);
    }

    private static void yearsAndUnits() {
        Neonworks shop = new Neonworks();
        Check.same("year", shop.year(), 0);
        shop.pass(7);
        Check.same("year", shop.year(), 7);
        int units = 0;
        for (int i = 1; i <= 20; i++) {
            Make.tube(shop, 8, "e".repeat(3 * i), 0, i, 0);
            units += 3 * i;
            Check.same("all units", shop.allUnits(), units);
        }
        shop.type('e');
        Check.same("the path does not count", shop.allUnits(), units);
    }

    private static void shares() {
        Neonworks shop = new Neonworks();
        Check.fails("share of nothing", ArithmeticException.class, shop::lightShare);
        Check.fails("mean of nothing", ArithmeticException.class, shop::meanBends);
        String[] paths = {"ene", "en", "e", "enen", "enene", "e", "enenenene"};
        int bends = 0;
        int shining = 0;
        for (int i = 0; i < paths.length; i++) {
            Make.tube(shop, 8, paths[i], 0, 20 * i, 0);
            if (i % 3 == 0) {
                Make.lightUp(shop, i, 8, 'n');
                shining++;
            }
            bends += paths[i].length() - 1;
            Check.same("share", shop.lightShare(), (float) shining / (float) (i + 1));
            Check.same("mean", shop.meanBends(), (double) bends / (double) (i + 1));
        }
        shop.pass(50);
        Check.same("no tube lights", shop.lightShare(), 0f);
    }

    private static void soundness() {
        Check.same("a new shop", new Neonworks().isSound(), true);
        Neonworks shop = litShop(5);
        shop.cam(3, 5);
        for (int i = 0; i < 5; i++) {
            shop.wire(i, 'd', 0, 0);
        }
        Make.tube(shop, 8, Make.runs("e3n3w3s2w1"), 0, 40, 3);
        Check.same("a lit shop", shop.isSound(), true);
        shop.wet(0, true);
        shop.pass(50);
        Check.same("an old one", shop.isSound(), true);
        // Tubes that meet are fine where they do not hang together.
        Make.tube(shop, 8, "eeee", 0, 0, 0);
        Check.same("meeting ones", shop.isSound() + " " + shop.meet(0, 6), "true true");
        Make.typed(shop, "ew");
        Check.same("the path does not matter", shop.isSound(), true);
    }
}
