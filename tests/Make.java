/** Shops in the states that tests begin with. */
final class Make {
    private Make() {
    }

    static Neonworks typed(String letters) {
        return typed(new Neonworks(), letters);
    }

    static Neonworks typed(Neonworks shop, String letters) {
        for (char letter : letters.toCharArray()) {
            shop.type(letter);
        }
        return shop;
    }

    static int tube(Neonworks shop, int width, String letters, int x, int y, int z) {
        typed(shop, letters);
        return shop.tube(width, x, y, z);
    }

    /** A letter many times: runs("e3n2") is "eeenn". */
    static String runs(String counted) {
        StringBuilder all = new StringBuilder();
        int i = 0;
        while (i < counted.length()) {
            char letter = counted.charAt(i++);
            int many = 0;
            while (i < counted.length() && Character.isDigit(counted.charAt(i))) {
                many = many * 10 + counted.charAt(i++) - '0';
            }
            all.append(String.valueOf(letter).repeat(Math.max(many, 1)));
        }
        return all.toString();
    }

    /** Pumps to no air, burns out and fills with the right pressure. */
    static void lightUp(Neonworks shop, int tube, int width, char gas) {
        shop.pump(tube, 20);
        shop.burn(tube, 200);
        shop.fill(tube, gas, 100 / width + 4);
    }

    /** A new tube of width 8, four units to the east, that lights; tubes with other rows do not meet. */
    static int bright(Neonworks shop, int row, char gas) {
        int tube = tube(shop, 8, "eeee", 0, row, 0);
        lightUp(shop, tube, 8, gas);
        return tube;
    }
}
