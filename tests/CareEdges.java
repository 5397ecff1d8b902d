import java.util.ArrayList;
import java.util.List;
import java.util.function.Supplier;

/** Sentences of care and of exceptions, and of promises 56 to 64. */
final class CareEdges extends Edges {
    private CareEdges() {
    }

    static void all() {
        termsOfAge();
        termsOfCare();
        burning();
        choosing();
        sparing();
        counting();
        sharing();
        sounding();
        changingNothing();
        firstListed();
    }

    /** A sign of one tube, straight on, that is lit by a cam in each second of it that has a bit. */
    private static Neonworks lit(int period, int bits) {
        return SignEdges.signOf("A", period, bits);
    }

    private static void termsOfAge() {
        of(0);
        says("Tubes age by hours in which they are lit: by burning a sign for some hours, each tube ages by as many, times "
                + "the seconds 0 to 359 in which it is lit, / 360, cut", () -> {
            same("always", lit(1, 1).burnFor(0, 7), 7);
            same("never", lit(1, 0).burnFor(0, 9999), 0);
            same("each second second", lit(2, 1).burnFor(0, 7), 3);
            // A period of 7 has 51 times all of its seconds in 0 to 359, and 3 more.
            same("the first second of 7", lit(7, 1).burnFor(0, 360), 52);
            same("the third second of 7", lit(7, 0b100).burnFor(0, 360), 52);
            same("the fourth second of 7", lit(7, 0b1000).burnFor(0, 360), 51);
            same("cut", lit(7, 1).burnFor(0, 6), 0);
            same("just 1", lit(7, 1).burnFor(0, 7), 1);
            Neonworks shop = lit(2, 1);
            shop.burnFor(0, 1);
            same("cut each time", shop.burnFor(0, 1), 0);
            shop.stick(0, '1');
            same("by how cams stick", shop.burnFor(0, 1), 1);
            Neonworks nowhere = lit(1, 1);
            Make.bright(nowhere, 20, 'a');
            nowhere.load(0, 1);
            nowhere.wire(1, 'd', 0, 0);
            nowhere.burnFor(0, 10);
            same("of its sign alone", nowhere.age(0) + " " + nowhere.age(1), "10 0");
        });
    }

    private static void termsOfCare() {
        of(0);
        says("The care of a tube is its age divided by 100, plus its heat, plus 20 times what leaked in", () -> {
            // A tube 0 of some age, one of a heat of 10.
            same("999 hours are 9", agedBeside(999, "en").next(), 1);
            same("1000 hours are 10", agedBeside(1000, "en").next(), 0);
            same("2999 hours, and a heat of 30", agedBeside(2999, "enen").next(), 1);
            same("3000 hours, and a heat of 30", agedBeside(3000, "enen").next(), 0);
            Neonworks shop = agedBeside(1, "ene");
            shop.pass(1);
            same("1 leaked in, and a heat of 20", shop.next(), 0);
            Neonworks hot = agedBeside(1, "enen");
            hot.pass(1);
            same("1 leaked in, and a heat of 30", hot.next(), 1);
            hot.pass(1);
            same("2 leaked in, and a heat of 30", hot.next(), 0);
        });
        says("the next one to make anew is that with the most, of several the lowest", () -> {
            Neonworks shop = new Neonworks();
            for (String path : new String[] {"e", "en", "ene", "en", "ene"}) {
                Make.tube(shop, 8, path, 0, shop.allUnits() * 2, 0);
            }
            same("the first of a heat of 20", shop.next(), 2);
        });
        says("A spare is bent ahead: it takes the place of the tube, with age 0, not pumped", () -> {
            Neonworks shop = agedBeside(500, "en");
            shop.pass(3);
            shop.spare(0);
            same("its age, and that it is bent alone", shop.age(0) + " " + shop.stateOf(0), "0 b");
            same("nothing leaked into it", shop.leaked(0), 0);
            same("it is on the sign", shop.bentAt(0), 1);
            same("it has all its air", shop.pump(0, 1), 50000);
            Check.fails("it is in the row", REFUSED, () -> shop.load(0, 0));
        });
    }

    /** A tube 0 that was lit for some hours, and a tube 1 that is not lit. */
    private static Neonworks agedBeside(int hours, String other) {
        Neonworks shop = lit(1, 1);
        shop.burnFor(0, hours);
        Make.tube(shop, 8, other, 0, 20, 0);
        return shop;
    }

    private static void burning() {
        of(56);
        says("`sign`: the number of the sign", () -> takesNumbersOf(2, (shop, sign) -> shop.burnFor(sign, 1)));
        says("`hours`: 1 to 9999", () -> takes(1, 9999, Make::shop, (shop, hours) -> shop.burnFor(0, hours)));
        says("Returns the sum of the ages of its tubes.", () -> {
            Neonworks shop = SignEdges.signOf("ABC", 1, 1, 2, 1, 1, 0);
            same("of three", shop.burnFor(0, 10), 10 + 5);
            same("of three, more", shop.burnFor(0, 10), 20 + 10);
            shop.spare(0);
            same("of a spare, too", shop.burnFor(0, 10), 10);
            shop.sign(10, 10);
            same("of none", shop.burnFor(1, 10), 0);
        });
        says("Throws `IndexOutOfBoundsException` if there is no such sign", () -> {
            refusesNumbersFrom(2, (shop, sign) -> shop.burnFor(sign, 1));
            refusesNumbersFrom(2, (shop, sign) -> shop.burnFor(sign, 0));
        });
        says("Throws `IllegalArgumentException` if a number is out of range", () ->
                refuses(1, 9999, Make::shop, (shop, hours) -> shop.burnFor(0, hours)));
        of(57);
        says("`tube`: the number of the tube", () -> takesNumbersOf(3, Neonworks::age));
        says("Returns the age of a tube.", () -> same("lit for each second hour of 100", Make.shop().age(0), 50));
        says("Returns the hours.", () -> {
            Neonworks shop = lit(1, 1);
            same("at first", shop.age(0), 0);
            for (int i = 1; i <= 200; i++) {
                shop.burnFor(0, 9999);
            }
            same("of many", shop.age(0), 200 * 9999);
        });
        says("Throws `IndexOutOfBoundsException` if there is no such tube", () -> refusesNumbersFrom(3, Neonworks::age));
    }

    private static void choosing() {
        of(58);
        says("Returns the tube to make anew next.", () -> same("of the shop", Make.shop().next(), 0));
        says("Returns the number of the tube.", () -> {
            same("the only one", oneTube("e").next(), 0);
            Neonworks shop = oneTube("e");
            Make.tube(shop, 8, "en", 0, 9, 0);
            same("the last one", shop.next(), 1);
        });
        says("Throws `NoSuchElementException` if there is none that can be bent", () -> {
            refused("no tube", MISSING, Neonworks::new, Neonworks::next);
            refused("a path alone", MISSING, () -> Make.typed("en"), Neonworks::next);
            same("one that needs no care", oneTube("e").next(), 0);
        });
    }

    private static Neonworks oneTube(String letters) {
        Neonworks shop = new Neonworks();
        Make.tube(shop, 8, letters, 0, 0, 0);
        return shop;
    }

    private static void sparing() {
        of(59);
        says("`tube`: the number of the tube", () -> takesNumbersOf(3, Neonworks::spare));
        says("Returns its age before.", () -> {
            Neonworks shop = agedBeside(77, "e");
            same("of a tube that was lit", shop.spare(0), 77);
            same("of its spare", shop.spare(0), 0);
            same("of one that was not lit", shop.spare(1), 0);
        });
        says("Throws `IndexOutOfBoundsException` if there is no such tube", () -> refusesNumbersFrom(3, Neonworks::spare));
    }

    private static void counting() {
        of(60);
        says("Returns the year.", () -> {
            Neonworks shop = new Neonworks();
            same("at first", shop.year(), 0);
            for (int i = 1; i <= 20; i++) {
                shop.pass(50);
                same("behind " + i + " times 50", shop.year(), 50 * i);
            }
            Check.fails("behind the last", FULL, () -> shop.pass(1));
            same("the last", shop.year(), 1000);
        });
        of(61);
        says("Returns the sum of the units of all tubes.", () -> same("of the shop", Make.shop().allUnits(), 14));
        says("Returns the sum.", () -> {
            same("of none", new Neonworks().allUnits(), 0);
            same("of a path", Make.typed("eee").allUnits(), 0);
            Neonworks shop = new Neonworks();
            for (int i = 1; i <= 20; i++) {
                Make.tube(shop, 8, "e".repeat(20), 0, i, 0);
                same("of " + i, shop.allUnits(), 20 * i);
            }
            shop.black(0, 0, 20);
            same("black ones count", shop.allUnits(), 400);
        });
    }

    private static void sharing() {
        of(62);
        says("Returns the share of the tubes that light.", () -> same("one of three", Make.shop().lightShare(), 1f / 3f));
        says("Returns their number divided by that of all, both converted to float.", () -> {
            same("none", oneTube("e").lightShare(), 0f);
            Neonworks shop = new Neonworks();
            Make.bright(shop, 0, 'n');
            same("all", shop.lightShare(), 1f);
            for (int i = 1; i < 20; i++) {
                Make.tube(shop, 8, "e", 0, i, 0);
                same("one of " + (i + 1), shop.lightShare(), 1f / (i + 1));
            }
            shop.pass(40);
            same("it leaked", shop.lightShare(), 0f);
        });
        says("Throws `ArithmeticException` if there are none", () -> {
            refused("no tube", ArithmeticException.class, Neonworks::new, Neonworks::lightShare);
            refused("a path alone", ArithmeticException.class, () -> Make.typed("e"), Neonworks::lightShare);
        });
        of(63);
        says("Returns the mean number of bends.", () -> same("of 0, 2 and 0", Make.shop().meanBends(), 2 / 3.0));
        says("Returns the sum divided by the number of tubes, both converted to double.", () -> {
            same("none", oneTube("e").meanBends(), 0.0);
            Neonworks shop = oneTube("enenenene");
            same("eight", shop.meanBends(), 8.0);
            for (int i = 1; i < 20; i++) {
                Make.tube(shop, 8, "en", 0, 20 + 2 * i, 0);
                same("of " + (i + 1), shop.meanBends(), (8 + i) / (double) (i + 1));
            }
        });
        says("Throws `ArithmeticException` if there are none", () -> {
            refused("no tube", ArithmeticException.class, Neonworks::new, Neonworks::meanBends);
            refused("a path alone", ArithmeticException.class, () -> Make.typed("e"), Neonworks::meanBends);
        });
    }

    private static void sounding() {
        of(64);
        says("Returns whether this holds.", () -> {
            same("of a new shop", new Neonworks().isSound(), true);
            same("of a shop", Make.shop().isSound(), true);
            Neonworks shop = SignEdges.signOf("ABC", 3, 1, 12, 5, 7, 9);
            Make.tube(shop, 8, Make.runs("e5n3w3s2e1n1"), 0, 50, 0);
            for (char how : "10l-".toCharArray()) {
                shop.stick(0, how);
                same("cams that stick " + how, shop.isSound(), true);
            }
            shop.wet(0, true);
            shop.pass(50);
            shop.spare(0);
            same("what is old and wet", shop.isSound(), true);
        });
    }

    // ---- exceptions ----

    private static void changingNothing() {
        of(0);
        says("Exceptions. A method that throws an exception changes nothing.", () -> {
            Neonworks shop = Make.shop();
            List<Check.Call> calls = refusedByAll(shop);
            for (int i = 0; i < calls.size(); i++) {
                Check.Call call = calls.get(i);
                same("call " + i + " throws", hasThrown(call), true);
            }
            same("the shop is as it was", Make.told(shop), Make.told(Make.shop()));
        });
    }

    private static boolean hasThrown(Check.Call call) {
        try {
            call.answer();
            return false;
        } catch (RuntimeException thrown) {
            return true;
        }
    }

    /** For each call that can be refused, one that the shop refuses at its last look. */
    private static List<Check.Call> refusedByAll(Neonworks shop) {
        List<Check.Call> all = new ArrayList<>();
        all.add(() -> shop.type('x'));
        all.add(() -> shop.judge(9));
        all.add(() -> shop.tube(8, 0, 0, 51));
        all.add(() -> shop.at(0, 5, 'x'));
        all.add(() -> shop.meet(1, 1));
        all.add(() -> shop.black(1, 2, 7));
        all.add(() -> shop.orderAt(1, 2));
        all.add(() -> shop.canBend(1, 22));
        all.add(() -> shop.setCoat(0, 5));
        all.add(() -> shop.pump(0, 5));
        all.add(() -> shop.burn(1, 300));
        all.add(() -> shop.fill(0, 'a', 9));
        all.add(() -> shop.light(1, 6, true, 'r'));
        all.add(() -> shop.pass(51));
        all.add(() -> shop.volts(1));
        all.add(() -> shop.transformer(99));
        all.add(() -> shop.load(1, 0));
        all.add(() -> shop.sign(10, 401));
        all.add(() -> shop.hang(1, 0, 'C'));
        all.add(() -> shop.cam(2, 4));
        all.add(() -> shop.wire(0, 'a', 1, 2));
        all.add(() -> shop.wire(0, 'x', 1, 1));
        all.add(() -> shop.stick(0, 'x'));
        all.add(() -> shop.isLit(0, -1));
        all.add(() -> shop.letterAt(0, 0, 2));
        all.add(() -> shop.mean(1, 'A', false));
        all.add(() -> shop.mixed(0, 0, true, 'x'));
        all.add(() -> shop.anchor(0, 'c', 21));
        all.add(() -> shop.holds(0, 101, 0));
        all.add(() -> shop.permit(0, 4, 1, 1));
        all.add(() -> shop.isDark(0, 0, 1, 24));
        all.add(() -> shop.mark(0, 501));
        all.add(() -> shop.keep(0, 5, 0));
        all.add(() -> shop.rain(31, true));
        all.add(() -> shop.bentAt(2));
        all.add(() -> shop.burnFor(0, 10000));
        all.add(() -> shop.spare(3));
        return all;
    }

    /** A shop of which no more can be made, in the last year, with a path of 60 letters. */
    private static Neonworks full() {
        Neonworks shop = new Neonworks();
        for (int i = 0; i < 20; i++) {
            Make.tube(shop, 8, "e", 0, i, 0);
            shop.pass(50);
        }
        shop.fill(0, 'n', 16);
        for (int i = 0; i < 8; i++) {
            shop.transformer(100);
            shop.cam(1, 0);
        }
        for (int i = 0; i < 6; i++) {
            shop.sign(10, 10);
        }
        for (int i = 0; i < 12; i++) {
            shop.mark(0, 0);
        }
        shop.load(0, 0);
        shop.hang(0, 0, 'A');
        return shop;
    }

    private static void firstListed() {
        of(0);
        says("If several exceptions apply, the one that is listed first is thrown.", () -> {
            Supplier<Neonworks> typed = () -> Make.typed(full(), "e".repeat(60));
            Check.fails("type", WRONG, () -> typed.get().type('x'));
            Check.fails("tube", WRONG, () -> full().tube(9, 0, 0, 0));
            Check.fails("tube, no good path", REFUSED, () -> full().tube(8, 0, 0, 0));
            Check.fails("tube, a good path", FULL, () -> typed.get().tube(8, 0, 0, 0));
            Check.fails("at", NONE, () -> full().at(20, -1, '?'));
            Check.fails("meet", NONE, () -> full().meet(20, 20));
            Check.fails("black", NONE, () -> full().black(-1, 1, 0));
            Check.fails("orderAt", NONE, () -> full().orderAt(20, -1));
            Check.fails("canBend", NONE, () -> full().canBend(20, -1));
            Check.fails("setCoat", NONE, () -> full().setCoat(20, 6));
            Check.fails("setCoat, filled", WRONG, () -> full().setCoat(0, 6));
            Check.fails("pump", NONE, () -> full().pump(20, 0));
            Check.fails("pump, filled", WRONG, () -> full().pump(0, 0));
            Check.fails("burn", NONE, () -> full().burn(20, 401));
            Check.fails("burn, filled", WRONG, () -> full().burn(0, 401));
            Check.fails("fill", NONE, () -> full().fill(20, '?', 0));
            Check.fails("fill, filled", WRONG, () -> full().fill(0, '?', 0));
            Check.fails("light", NONE, () -> full().light(20, -1, true, '?'));
            Check.fails("pass", WRONG, () -> full().pass(51));
            Check.fails("transformer", WRONG, () -> full().transformer(99));
            Check.fails("load", NONE, () -> full().load(8, 0));
            firstListedOfSigns();
        });
    }

    private static void firstListedOfSigns() {
        Check.fails("sign", WRONG, () -> full().sign(9, 9));
        Check.fails("hang", NONE, () -> full().hang(6, 0, '?'));
        Check.fails("hang, no letter", WRONG, () -> full().hang(1, 0, '?'));
        Check.fails("cam", WRONG, () -> full().cam(1, 2));
        Check.fails("wire", NONE, () -> full().wire(0, '?', 8, 0));
        Check.fails("stick", NONE, () -> full().stick(8, '?'));
        Check.fails("isLit", NONE, () -> full().isLit(20, -1));
        Check.fails("letters", NONE, () -> full().letters(6, -1));
        Check.fails("letterAt", NONE, () -> full().letterAt(6, -1, -1));
        Check.fails("letterAt, no second", WRONG, () -> full().letterAt(0, -1, -1));
        Check.fails("mean", NONE, () -> full().mean(6, '?', false));
        Check.fails("mean, no letter", WRONG, () -> full().mean(0, '?', false));
        Check.fails("mixed", NONE, () -> full().mixed(6, -1, true, '?'));
        Check.fails("anchor", NONE, () -> full().anchor(6, '?', 0));
        Check.fails("holds", NONE, () -> full().holds(6, -1, -1));
        Check.fails("permit", NONE, () -> full().permit(6, -1, 0, -1));
        Check.fails("isDark", NONE, () -> full().isDark(6, -1, 0, -1));
        Check.fails("mark", WRONG, () -> full().mark(501, 0));
        Check.fails("trace", NONE, () -> new Neonworks().trace(0, true));
        Check.fails("keep", NONE, () -> full().keep(20, -1, -1));
        Check.fails("bentAt", NONE, () -> full().bentAt(20));
        Check.fails("burnFor", NONE, () -> full().burnFor(6, 0));
    }
}
