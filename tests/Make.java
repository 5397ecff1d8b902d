/** Shops in the states that tests begin with. */
final class Make {
    private Make() {
    }

    static Neonworks typed(String letters) {
        return typed(new Neonworks(), letters);
    }

    static Neonworks typed(Neonworks shop, String letters) {
        for (char letter : letters.toCharArray()) {
            shop.type(letter);
        }
        return shop;
    }

    static int tube(Neonworks shop, int width, String letters, int x, int y, int z) {
        typed(shop, letters);
        return shop.tube(width, x, y, z);
    }

    /** A letter many times: runs("e3n2") is "eeenn". */
    static String runs(String counted) {
        StringBuilder all = new StringBuilder();
        int i = 0;
        while (i < counted.length()) {
            char letter = counted.charAt(i++);
            int many = 0;
            while (i < counted.length() && Character.isDigit(counted.charAt(i))) {
                many = many * 10 + counted.charAt(i++) - '0';
            }
            all.append(String.valueOf(letter).repeat(Math.max(many, 1)));
        }
        return all.toString();
    }

    /** Pumps to no air, burns out and fills with the right pressure. */
    static void lightUp(Neonworks shop, int tube, int width, char gas) {
        shop.pump(tube, 20);
        shop.burn(tube, 200);
        shop.fill(tube, gas, 100 / width + 4);
    }

    /** A new tube of width 8, four units to the east, that lights; tubes with other rows do not meet. */
    static int bright(Neonworks shop, int row, char gas) {
        int tube = tube(shop, 8, "eeee", 0, row, 0);
        lightUp(shop, tube, 8, gas);
        return tube;
    }

    /** A shop that has something of all: three tubes, two signs, two transformers, two cams and two marks. */
    static Neonworks shop() {
        Neonworks shop = new Neonworks();
        bright(shop, 0, 'n');
        tube(shop, 10, "eennee", 0, 10, 0);
        tube(shop, 12, "nnnn", 50, 0, 0);
        shop.black(0, 0, 1);
        shop.setCoat(1, 3);
        shop.pump(1, 5);
        shop.sign(100, 60);
        shop.sign(50, 50);
        shop.hang(0, 0, 'A');
        shop.hang(0, 1, 'B');
        shop.anchor(0, 'b', 1);
        shop.wet(0, true);
        shop.transformer(1000);
        shop.transformer(2000);
        shop.load(0, 0);
        shop.cam(2, 1);
        shop.cam(3, 3);
        shop.wire(0, 'd', 0, 0);
        shop.stick(1, 'l');
        shop.mean(0, 'A', true);
        shop.mean(0, 'B', true);
        shop.mean(0, 'C', false);
        shop.mark(3, 3);
        shop.mark(4, 4);
        shop.rain(2, true);
        shop.pass(2);
        shop.burnFor(0, 100);
        return typed(shop, "en");
    }

    /**
     * What can be asked of a shop, as one text. Asking for the last of it changes the shop, so that it is of no use
     * then; all the questions of a full shop, and what made it, stay within the 512 calls of an object.
     */
    static String told(Neonworks shop) {
        StringBuilder all = new StringBuilder();
        ask(all, "year", shop::year);
        ask(all, "units", shop::allUnits);
        ask(all, "share", shop::lightShare);
        ask(all, "bends", shop::meanBends);
        ask(all, "traced", shop::traced);
        ask(all, "next", shop::next);
        ask(all, "sound", shop::isSound);
        ask(all, "path", () -> shop.judge(8));
        ask(all, "copied", shop::copied);
        int tubes = 0;
        while (tubes < 20 && ask(all, "tube", tubeUnits(shop, tubes))) {
            tubes++;
        }
        for (int i = 0; i < 8; i++) {
            int number = i;
            if (ask(all, "load", () -> shop.loadOf(number))) {
                ask(all, "row", () -> shop.rowVolts(number) + " " + shop.rowLights(number));
            }
        }
        for (int i = 0; i < 6 && ask(all, "sign", signLight(shop, i)); i++) {
            tellSign(all, shop, i);
        }
        for (int i = 0; i < tubes; i++) {
            tellTube(all, shop, i);
        }
        tellRest(all, shop);
        return all.toString();
    }

    private static Check.Call tubeUnits(Neonworks shop, int tube) {
        return () -> shop.units(tube);
    }

    private static Check.Call signLight(Neonworks shop, int sign) {
        return () -> shop.lightOf(sign);
    }

    private static void tellTube(StringBuilder all, Neonworks shop, int tube) {
        ask(all, "state", () -> shop.stateOf(tube) + " " + shop.leaked(tube) + " " + shop.age(tube));
        ask(all, "light", () -> shop.light(tube, 0, false, 'r'));
        ask(all, "lit", () -> shop.isLit(tube, 0) + " " + shop.isLit(tube, 1));
        ask(all, "black", () -> shop.black(tube, 0, 1));
        ask(all, "coat", () -> shop.setCoat(tube, 0));
        ask(all, "air", () -> shop.pump(tube, 1));
        ask(all, "wired", () -> shop.wire(tube, 'd', 0, 0));
        ask(all, "hung", () -> shop.hang(0, tube, 'Q'));
        ask(all, "in a row", () -> shop.load(0, tube));
    }

    private static void tellSign(StringBuilder all, Neonworks shop, int sign) {
        ask(all, "wrong", () -> shop.wrongAt(sign));
        ask(all, "risks", () -> shop.risks(sign));
        ask(all, "word", () -> shop.letterAt(sign, 0, 0));
        ask(all, "day", () -> shop.hungOn(sign));
        ask(all, "area", () -> shop.permit(sign, 3, 1, 0));
        ask(all, "anchors", () -> shop.anchor(sign, 'o', 1));
        ask(all, "words", () -> shop.mean(sign, 'Q', false));
        ask(all, "wet", () -> shop.wet(sign, false));
    }

    private static void tellRest(StringBuilder all, Neonworks shop) {
        for (int i = 0; i < 8; i++) {
            int cam = i;
            ask(all, "stuck", () -> shop.stick(cam, '-'));
        }
        for (int i = 0; i <= 30; i++) {
            int day = i;
            ask(all, "rain", () -> shop.rain(day, false));
        }
        ask(all, "cams", () -> shop.cam(1, 0));
        ask(all, "signs", () -> shop.sign(10, 10));
        ask(all, "transformers", () -> shop.transformer(100));
        ask(all, "marks", () -> shop.mark(0, 0));
        ask(all, "letters", () -> shop.type('e'));
        ask(all, "letters", shop::erase);
    }

    /** Adds the answer, or what was thrown; whether there was one. */
    private static boolean ask(StringBuilder all, String what, Check.Call call) {
        all.append(what).append(' ');
        try {
            all.append(call.answer()).append('\n');
            return true;
        } catch (RuntimeException thrown) {
            Check.same(what + " threw what the machine throws: " + thrown, Check.isThrownByClass(thrown), true);
            all.append(thrown.getClass().getSimpleName()).append('\n');
            return false;
        }
    }
}
