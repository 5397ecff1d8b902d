import java.util.ArrayList;
import java.util.HashSet;
import java.util.List;
import java.util.Random;
import java.util.Set;

/** Long random runs, each call made of the class and of the plain model of the document: both answer alike. */
public final class ModelTest {
    private static final int CALLS = 512;
    private static final int RUNS = 250;
    private static final int[] WIDTHS = {8, 10, 12, 15};
    private static final int[] WILD = {-1, 0, 1, 2, 3, 7, 8, 9, 11, 12, 13, 20, 21, 31, 50, 51, 60, 61, 100, 366, 367, 401,
        501, -501, 1000, 10000, 15001, Integer.MAX_VALUE, Integer.MIN_VALUE};
    private static final String WAYS = "ewnsud";

    private final Random random;
    private final Neonworks shop = new Neonworks();
    private final Model model = new Model();
    private final String run;
    private int calls;
    private int thrown;
    // What the run has made so far.
    private int tubes;
    private int signs;
    private int cams;
    private int powers;
    // Some runs stay near one place, so that tubes meet, cover each other and fit marks; some go by few years; in some
    // most tubes are lit, of a few letters each.
    private final int near;
    private final int hurry;
    private final int longest;
    private final boolean isBright;

    private ModelTest(int seed) {
        random = new Random(seed);
        run = "run " + seed;
        isBright = random.nextInt(3) > 0;
        near = 1 + random.nextInt(random.nextBoolean() ? 9 : 60);
        hurry = 1 + random.nextInt(random.nextBoolean() ? 3 : 40);
        longest = 1 + random.nextInt(isBright ? 2 : 12);
    }

    public static void main(String[] args) {
        int runs = args.length > 0 ? Integer.parseInt(args[0]) : RUNS;
        int thrown = 0;
        for (int seed = 0; seed < runs; seed++) {
            ModelTest test = new ModelTest(seed);
            test.play();
            thrown += test.thrown;
        }
        Check.same("of 100 calls, 5 to 50 throw", thrown > runs * CALLS / 20 && thrown < runs * CALLS / 2, true);
        Check.end(ModelTest.class);
    }

    /** First what tubes need, then tubes and all else, and more and more questions. */
    private void play() {
        for (int kind = 0; kind < 3; kind++) {
            for (int many = random.nextInt(isBright ? 4 : 3); many >= 0; many--) {
                makeOther(kind);
            }
        }
        while (calls < CALLS) {
            int deed = random.nextInt(15 + calls / 8);
            if (deed < 4) {
                makeTube();
                if (isBright && tubes > 0) {
                    lightTube(tubes - 1, random.nextInt(12) > 0);
                    putTube(tubes - 1);
                }
            } else if (deed < 5) {
                lightTube(numberOf(tubes), random.nextBoolean());
            } else if (deed < 7) {
                putTube(numberOf(tubes));
            } else if (deed < 10) {
                makeOther(random.nextInt(11));
            } else if (deed < 12) {
                meanWord();
            } else {
                askOne(random.nextInt(46));
            }
        }
    }

    private void call(String what, Check.Call ofShop, Check.Call ofModel) {
        if (calls >= CALLS) {
            return;
        }
        calls++;
        String due = outcome(ofModel, false);
        Check.same(run + ", call " + calls + ", " + what, outcome(ofShop, true), due);
        thrown += due.contains("Exception") ? 1 : 0;
    }

    private static String outcome(Check.Call call, boolean isShop) {
        try {
            return String.valueOf(call.answer());
        } catch (RuntimeException thrown) {
            boolean isOwn = !isShop || Check.isThrownByClass(thrown);
            return isOwn ? thrown.getClass().getSimpleName() : "by the machine: " + thrown;
        }
    }

    // ---- random arguments, of which some are wild ----

    private int between(int least, int most) {
        if (random.nextInt(60) == 0) {
            return WILD[random.nextInt(WILD.length)];
        }
        if (random.nextInt(30) == 0) {
            return random.nextBoolean() ? least - 1 : most + 1;
        }
        return random.nextInt(15) == 0 ? random.nextBoolean() ? least : most : least + random.nextInt(most - least + 1);
    }

    private int numberOf(int many) {
        return random.nextInt(40) == 0 ? WILD[random.nextInt(WILD.length)] : random.nextInt(many + (many == 0 ? 1 : 0));
    }

    private char oneOf(String letters) {
        return random.nextInt(40) == 0 ? (char) random.nextInt(130) : letters.charAt(random.nextInt(letters.length()));
    }

    private int width() {
        return random.nextInt(40) == 0 ? between(7, 16) : WIDTHS[random.nextInt(4)];
    }

    private int second() {
        return random.nextInt(4) == 0 ? between(0, 100000) : random.nextInt(12);
    }

    // ---- deeds of several calls ----

    /** A path of random runs that mostly does not meet itself. */
    private String path() {
        String path = "";
        int bends = random.nextInt(9) + (random.nextInt(12) == 0 ? 3 : 0);
        for (int tries = 0; tries < 12; tries++) {
            StringBuilder made = new StringBuilder();
            char way = WAYS.charAt(random.nextInt(6));
            boolean isFlat = random.nextInt(3) == 0;
            for (int i = 0; i <= bends; i++) {
                made.append(String.valueOf(way).repeat(1 + random.nextInt(longest)));
                char ahead = way;
                while (WAYS.indexOf(way) / 2 == WAYS.indexOf(ahead) / 2) {
                    way = WAYS.charAt(random.nextInt(isFlat ? 4 : 6));
                    ahead = isFlat && "ud".indexOf(ahead) >= 0 ? way == 'e' ? 'n' : 'e' : ahead;
                }
            }
            path = made.toString();
            if (!meetsItself(path)) {
                return path;
            }
        }
        return path;
    }

    private static boolean meetsItself(String path) {
        Set<List<Integer>> places = new HashSet<>();
        int[] at = new int[3];
        places.add(List.of(0, 0, 0));
        for (char way : path.toCharArray()) {
            at[WAYS.indexOf(way) / 2] += WAYS.indexOf(way) % 2 == 0 ? 1 : -1;
            if (!places.add(List.of(at[0], at[1], at[2]))) {
                return true;
            }
        }
        return false;
    }

    private void makeTube() {
        if (random.nextInt(4) == 0) {
            call("erase", shop::erase, model::erase);
        }
        for (char letter : path().toCharArray()) {
            char typed = random.nextInt(400) == 0 ? oneOf("ewnsudx") : letter;
            call("type " + typed, () -> shop.type(typed), () -> model.type(typed));
        }
        int width = random.nextBoolean() ? 8 : width();
        call("judge " + width, () -> shop.judge(width), () -> model.judge(width));
        if (random.nextInt(3) == 0) {
            call("copied", shop::copied, model::copied);
        }
        int x = between(-near, near);
        int y = between(-near, near);
        int z = random.nextInt(3) == 0 ? between(0, 50) : random.nextInt(8);
        call("tube", () -> {
            int made = shop.tube(width, x, y, z);
            tubes = made + 1;
            return made;
        }, () -> model.tube(width, x, y, z));
        if (random.nextInt(3) > 0) {
            call("erase", shop::erase, model::erase);
        }
    }

    private void lightTube(int tube, boolean isRight) {
        int coat = between(0, 5);
        if (random.nextInt(3) == 0) {
            call("setCoat " + tube + " " + coat, () -> shop.setCoat(tube, coat), () -> model.setCoat(tube, coat));
        }
        int minutes = isRight ? between(12, 17) : between(1, 40);
        call("pump " + tube + " " + minutes, () -> shop.pump(tube, minutes), () -> model.pump(tube, minutes));
        int heat = isRight ? between(200, 400) : between(0, 400);
        call("burn " + tube + " " + heat, () -> shop.burn(tube, heat), () -> model.burn(tube, heat));
        char gas = oneOf("na");
        int pressure = isRight ? between(13, 15) : between(1, 99);
        call("fill " + tube + " " + gas + pressure, () -> shop.fill(tube, gas, pressure), () -> model.fill(tube, gas, pressure));
        call("stateOf", () -> shop.stateOf(tube), () -> model.stateOf(tube));
    }

    private void putTube(int tube) {
        int sign = numberOf(signs);
        int power = numberOf(powers);
        int cam = numberOf(cams);
        int other = numberOf(cams);
        char letter = oneOf("ABCDEZ");
        char relay = oneOf("dnao");
        call("hang " + sign + " " + tube, () -> shop.hang(sign, tube, letter), () -> model.hang(sign, tube, letter));
        call("load " + power + " " + tube, () -> shop.load(power, tube), () -> model.load(power, tube));
        call("wire " + tube + " " + relay + " " + cam + " " + other, () -> shop.wire(tube, relay, cam, other),
                () -> model.wire(tube, relay, cam, other));
    }

    private void makeOther(int kind) {
        boolean is = random.nextBoolean();
        if (kind == 0) {
            int width = between(10, random.nextBoolean() ? 400 : 80);
            int height = between(10, random.nextBoolean() ? 400 : 80);
            call("sign", () -> {
                int made = shop.sign(width, height);
                signs = made + 1;
                return made;
            }, () -> model.sign(width, height));
        } else if (kind == 1) {
            int period = random.nextBoolean() ? between(1, 12) : between(1, 4);
            int bits = random.nextInt(20) == 0 ? between(0, 4096) : random.nextInt(1 << Math.min(Math.max(period, 0), 12));
            call("cam " + period + " " + bits, () -> {
                int made = shop.cam(period, bits);
                cams = made + 1;
                return made;
            }, () -> model.cam(period, bits));
        } else if (kind == 2) {
            int load = random.nextInt(4) > 0 ? between(100, 15000) : between(100, 2000);
            call("transformer " + load, () -> {
                int made = shop.transformer(load);
                powers = made + 1;
                return made;
            }, () -> model.transformer(load));
        } else if (kind == 3 || kind > 8) {
            // Most marks are places of some tube, moved alike, so that traces fit several.
            boolean isLeft = tubes > 0 && random.nextInt(4) > 0;
            int tube = random.nextInt(Math.max(tubes, 1));
            int place = isLeft ? random.nextInt(model.units(tube) + 1) : 0;
            int x = isLeft ? model.at(tube, place, 'x') + near : between(-near - 20, near + 20);
            int y = isLeft ? model.at(tube, place, 'y') - near : between(-near - 20, near + 20);
            call("mark " + x + " " + y, () -> shop.mark(x, y), () -> model.mark(x, y));
        } else if (kind == 4) {
            int day = random.nextBoolean() ? between(0, 30) : between(0, 4);
            call("rain " + day, () -> shop.rain(day, is), () -> model.rain(day, is));
        } else if (kind == 5) {
            int years = between(1, hurry);
            call("pass " + years, () -> shop.pass(years), () -> model.pass(years));
        } else if (kind == 6) {
            int sign = numberOf(signs);
            char wall = oneOf("cbo");
            int many = random.nextBoolean() ? between(1, 20) : 1;
            call("anchor", () -> shop.anchor(sign, wall, many), () -> model.anchor(sign, wall, many));
        } else if (kind == 7) {
            int sign = numberOf(signs);
            call("wet " + sign + " " + is, () -> shop.wet(sign, is), () -> model.wet(sign, is));
        } else {
            int cam = numberOf(cams);
            char how = oneOf("10l---");
            call("stick " + cam + " " + how, () -> shop.stick(cam, how), () -> model.stick(cam, how));
        }
    }

    /** Means what the sign tells in some second, so that some signs come to be honest. */
    private void meanWord() {
        int sign = numberOf(signs);
        int second = random.nextInt(12);
        List<Character> word = new ArrayList<>();
        for (int i = 0; i < 9 && sign >= 0 && sign < signs; i++) {
            try {
                word.add(model.letterAt(sign, second, i));
            } catch (RuntimeException behindLast) {
                break;
            }
        }
        if (word.isEmpty()) {
            word.add(oneOf("ABCDEZ"));
        }
        for (int i = 0; i < word.size(); i++) {
            boolean isNew = random.nextInt(20) == 0 ? random.nextBoolean() : i == 0;
            char letter = word.get(i);
            call("mean " + sign + letter + isNew, () -> shop.mean(sign, letter, isNew), () -> model.mean(sign, letter, isNew));
        }
        call("wrongAt " + sign, () -> shop.wrongAt(sign), () -> model.wrongAt(sign));
        if (random.nextInt(3) == 0) {
            call("risks " + sign, () -> shop.risks(sign), () -> model.risks(sign));
        }
    }

    // ---- questions, and what changes little ----

    private void askOne(int kind) {
        if (kind < 12) {
            askOfShape(kind);
        } else if (kind < 24) {
            askOfTube(kind);
        } else if (kind < 38) {
            askOfSign(kind);
        } else {
            askOfAll(kind);
        }
    }

    private void askOfShape(int kind) {
        int tube = numberOf(tubes);
        int other = numberOf(tubes);
        int index = between(0, random.nextBoolean() ? 8 : 60);
        int to = random.nextInt(4) == 0 ? between(0, 60) : index + random.nextInt(5);
        char axis = oneOf("xyz");
        String ask = " " + tube + " " + other + " " + index + " " + axis;
        switch (kind) {
            case 0 -> call("units" + ask, () -> shop.units(tube), () -> model.units(tube));
            case 1, 2 -> call("at" + ask, () -> shop.at(tube, index, axis), () -> model.at(tube, index, axis));
            case 3, 4 -> call("meet" + ask, () -> shop.meet(tube, other), () -> model.meet(tube, other));
            case 5 -> call("black" + ask + to, () -> shop.black(tube, index, to), () -> model.black(tube, index, to));
            case 6 -> call("bends" + ask, () -> shop.bends(tube), () -> model.bends(tube));
            case 7, 8 -> call("orderAt" + ask, () -> shop.orderAt(tube, index), () -> model.orderAt(tube, index));
            case 9, 10 -> {
                long order = order(tube);
                call("canBend" + ask + order, () -> shop.canBend(tube, order), () -> model.canBend(tube, order));
            }
            default -> call("heat" + ask, () -> shop.heat(tube), () -> model.heat(tube));
        }
    }

    /** The bends of a tube in a random order, or at times what is none. */
    private long order(int tube) {
        if (tube < 0 || tube >= tubes || random.nextInt(12) == 0) {
            return random.nextBoolean() ? random.nextInt(1000) : random.nextLong();
        }
        List<Integer> rest = new ArrayList<>();
        for (int bend = 1; bend <= model.bends(tube); bend++) {
            rest.add(bend);
        }
        long order = 0;
        while (!rest.isEmpty()) {
            order = order * 10 + rest.remove(random.nextInt(rest.size()));
        }
        return random.nextInt(20) == 0 ? order * 10 + 1 : random.nextInt(30) == 0 ? -order : order;
    }

    private void askOfTube(int kind) {
        int tube = numberOf(tubes);
        int power = numberOf(powers);
        boolean is = random.nextBoolean();
        int unit = between(0, random.nextBoolean() ? 8 : 60);
        int coat = between(0, 5);
        int second = second();
        char part = oneOf("rgb");
        String ask = " " + tube + " " + power + " " + is + " " + unit + " " + second + " " + part;
        switch (kind) {
            case 12 -> call("stateOf" + ask, () -> shop.stateOf(tube), () -> model.stateOf(tube));
            case 13 -> call("light" + ask, () -> shop.light(tube, unit, is, part), () -> model.light(tube, unit, is, part));
            case 14 -> call("leaked" + ask, () -> shop.leaked(tube), () -> model.leaked(tube));
            case 15 -> call("volts" + ask, () -> shop.volts(tube), () -> model.volts(tube));
            case 16 -> call("isLit" + ask, () -> shop.isLit(tube, second), () -> model.isLit(tube, second));
            case 17 -> call("isReached" + ask, () -> shop.isReached(tube), () -> model.isReached(tube));
            case 18 -> call("keep" + ask, () -> shop.keep(tube, unit, coat), () -> model.keep(tube, unit, coat));
            case 19 -> call("age" + ask, () -> shop.age(tube), () -> model.age(tube));
            case 20 -> call("loadOf" + ask, () -> shop.loadOf(power), () -> model.loadOf(power));
            case 21 -> call("rowVolts" + ask, () -> shop.rowVolts(power), () -> model.rowVolts(power));
            case 22 -> call("rowLights" + ask, () -> shop.rowLights(power), () -> model.rowLights(power));
            default -> {
                if (random.nextInt(6) == 0) {
                    call("spare" + ask, () -> shop.spare(tube), () -> model.spare(tube));
                }
            }
        }
    }

    private void askOfSign(int kind) {
        int sign = numberOf(signs);
        int second = second();
        boolean is = random.nextBoolean();
        int index = between(0, 4);
        int wind = between(0, 100);
        int ice = random.nextBoolean() ? 0 : between(0, 100);
        int hour = random.nextBoolean() ? between(19, 23) : between(1, 24);
        int street = between(0, 3);
        int far = between(95, 105);
        int day = between(1, 366);
        int shield = between(0, 90);
        int burned = between(1, 9999);
        char part = oneOf("rgb");
        String ask = " " + sign + " " + second + " " + is + " " + index + " " + wind + " " + ice + " " + hour + " " + part
                + " " + street + " " + far + " " + day + " " + shield + " " + burned;
        switch (kind) {
            case 24 -> call("letters" + ask, () -> shop.letters(sign, second), () -> model.letters(sign, second));
            case 25, 26 -> call("letterAt" + ask, () -> shop.letterAt(sign, second, index),
                    () -> model.letterAt(sign, second, index));
            case 27 -> call("wrongAt" + ask, () -> shop.wrongAt(sign), () -> model.wrongAt(sign));
            case 28 -> call("risks" + ask, () -> shop.risks(sign), () -> model.risks(sign));
            case 29, 30 -> call("mixed" + ask, () -> shop.mixed(sign, second, is, part),
                    () -> model.mixed(sign, second, is, part));
            case 31 -> call("holds" + ask, () -> shop.holds(sign, wind, ice), () -> model.holds(sign, wind, ice));
            case 32 -> call("lightOf" + ask, () -> shop.lightOf(sign), () -> model.lightOf(sign));
            case 33, 34 -> call("permit" + ask, () -> shop.permit(sign, street, hour, far),
                    () -> model.permit(sign, street, hour, far));
            case 35 -> call("isDark" + ask, () -> shop.isDark(sign, shield, day, hour),
                    () -> model.isDark(sign, shield, day, hour));
            case 36 -> call("hungOn" + ask, () -> shop.hungOn(sign), () -> model.hungOn(sign));
            default -> call("burnFor" + ask, () -> shop.burnFor(sign, burned), () -> model.burnFor(sign, burned));
        }
    }

    private void askOfAll(int kind) {
        int tube = numberOf(tubes);
        boolean is = random.nextBoolean();
        switch (kind) {
            case 38 -> call("fits " + tube, () -> shop.fits(tube), () -> model.fits(tube));
            case 39 -> call("trace " + tube + is, () -> shop.trace(tube, is), () -> model.trace(tube, is));
            case 40 -> call("traced", shop::traced, model::traced);
            case 41 -> call("bentAt " + tube, () -> shop.bentAt(tube), () -> model.bentAt(tube));
            case 42 -> call("next", shop::next, model::next);
            case 43 -> call("allUnits, year", () -> shop.allUnits() + " " + shop.year(), () -> model.allUnits() + " " + model.year());
            case 44 -> call("lightShare", shop::lightShare, model::lightShare);
            default -> {
                call("meanBends", shop::meanBends, model::meanBends);
                call("isSound", shop::isSound, model::isSound);
            }
        }
    }
}
