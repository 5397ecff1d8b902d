import java.util.ArrayList;
import java.util.Arrays;
import java.util.HashSet;
import java.util.LinkedHashSet;
import java.util.List;
import java.util.NoSuchElementException;
import java.util.Set;
import java.util.TreeSet;

/**
 * The document once more, in the most plain way and with the whole Java library: glass as lists of points that are
 * turned by matrices, orders one by one, words as texts, the week hour by hour. Slow, and with nothing of the class.
 */
final class Model {
    private static final String LETTERS = "ewnsud";
    private static final int[][] STEPS = {{1, 0, 0}, {-1, 0, 0}, {0, 1, 0}, {0, -1, 0}, {0, 0, 1}, {0, 0, -1}};
    private static final List<Integer> WIDTHS = List.of(8, 10, 12, 15);

    private static final class Piece {
        int width;
        String path;
        List<List<Integer>> places;
        final Set<Integer> blacked = new TreeSet<>();
        int coat;
        int minutes;
        boolean isBurned;
        char gas;
        int pressure;
        int leaked;
        long age;
        int sign = -1;
        char letter;
        int row = -1;
        char relay;
        int cam = -1;
        int other = -1;
        List<Integer> order;
        boolean isSought;
    }

    private static final class Board {
        int width;
        int height;
        boolean isWet;
        int bears;
        final List<Integer> hung = new ArrayList<>();
        final List<String> words = new ArrayList<>();
    }

    private static final class Wheel {
        int period;
        int bits;
        char how = '-';
    }

    private static final class Power {
        int load;
        final List<Integer> row = new ArrayList<>();
    }

    private String path = "";
    private final List<Piece> pieces = new ArrayList<>();
    private final List<Power> powers = new ArrayList<>();
    private final List<Board> boards = new ArrayList<>();
    private final List<Wheel> wheels = new ArrayList<>();
    private final List<List<Integer>> marks = new ArrayList<>();
    private final Set<Integer> rainy = new HashSet<>();
    private int now;

    // ---- what is thrown ----

    private static void refuse(boolean is, RuntimeException thrown) {
        if (is) {
            throw thrown;
        }
    }

    private static RuntimeException wrong() {
        return new IllegalArgumentException();
    }

    private static RuntimeException full() {
        return new IllegalStateException();
    }

    private static RuntimeException refused() {
        return new UnsupportedOperationException();
    }

    private static RuntimeException nothing() {
        return new NoSuchElementException();
    }

    private static <T> T of(List<T> all, int number) {
        refuse(number < 0 || number >= all.size(), new IndexOutOfBoundsException());
        return all.get(number);
    }

    private static boolean isBetween(int number, int least, int most) {
        return least <= number && number <= most;
    }

    // ---- paths ----

    int type(char letter) {
        refuse(LETTERS.indexOf(letter) < 0, wrong());
        refuse(path.length() == 60, full());
        path += letter;
        return path.length();
    }

    int erase() {
        int many = path.length();
        path = "";
        return many;
    }

    private static boolean areOpposite(char one, char other) {
        return List.of("ew", "we", "ns", "sn", "ud", "du").contains("" + one + other);
    }

    /** Where the bends of a path are: the indexes of letters that are unlike the one ahead of them. */
    private static List<Integer> bendsOf(String path) {
        List<Integer> bends = new ArrayList<>();
        for (int i = 1; i < path.length(); i++) {
            if (path.charAt(i) != path.charAt(i - 1)) {
                bends.add(i);
            }
        }
        return bends;
    }

    private static boolean hasInnerRunBelow(String path, int least) {
        List<Integer> bends = bendsOf(path);
        for (int i = 1; i < bends.size(); i++) {
            if (bends.get(i) - bends.get(i - 1) < least) {
                return true;
            }
        }
        return false;
    }

    private static List<List<Integer>> placesOf(String path, int x, int y, int z) {
        List<List<Integer>> places = new ArrayList<>();
        int[] at = {x, y, z};
        places.add(List.of(x, y, z));
        for (char letter : path.toCharArray()) {
            for (int axis = 0; axis < 3; axis++) {
                at[axis] += STEPS[LETTERS.indexOf(letter)][axis];
            }
            places.add(List.of(at[0], at[1], at[2]));
        }
        return places;
    }

    char judge(int width) {
        refuse(!WIDTHS.contains(width), wrong());
        if (path.isEmpty()) {
            return '-';
        }
        for (int i = 1; i < path.length(); i++) {
            if (areOpposite(path.charAt(i - 1), path.charAt(i))) {
                return 'o';
            }
        }
        if (bendsOf(path).size() > 8) {
            return 'b';
        }
        if (hasInnerRunBelow(path, List.of(1, 2, 2, 3).get(WIDTHS.indexOf(width)))) {
            return 'r';
        }
        List<List<Integer>> places = placesOf(path, 0, 0, 0);
        return new HashSet<>(places).size() < places.size() ? 'm' : 'g';
    }

    char copied() {
        refuse(path.isEmpty(), refused());
        Set<Integer> sides = new HashSet<>();
        for (int bend : bendsOf(path)) {
            String around = path.substring(bend - 1, bend + 1);
            if (List.of("en", "nw", "ws", "se").contains(around)) {
                sides.add(1);
            } else if (List.of("es", "sw", "wn", "ne").contains(around)) {
                sides.add(-1);
            }
        }
        int signs = hasInnerRunBelow(path, 3) ? 1 : 0;
        signs += path.matches("[ewns]*") ? 1 : 0;
        signs += bendsOf(path).size() >= 10 ? 1 : 0;
        signs += sides.size() == 1 ? 1 : 0;
        return "ggdpp".charAt(signs);
    }

    int tube(int width, int x, int y, int z) {
        refuse(!WIDTHS.contains(width) || !isBetween(x, -500, 500) || !isBetween(y, -500, 500)
                || !isBetween(z, 0, 50), wrong());
        List<List<Integer>> places = placesOf(path, x, y, z);
        refuse(judge(width) != 'g' || places.stream().anyMatch(place -> place.get(2) < 0), refused());
        refuse(pieces.size() == 20, full());
        Piece made = new Piece();
        made.width = width;
        made.path = path;
        made.places = places;
        pieces.add(made);
        path = "";
        return pieces.size() - 1;
    }

    int units(int tube) {
        return of(pieces, tube).path.length();
    }

    int at(int tube, int place, char axis) {
        Piece piece = of(pieces, tube);
        refuse("xyz".indexOf(axis) < 0 || !isBetween(place, 0, piece.path.length()), wrong());
        return piece.places.get(place).get("xyz".indexOf(axis));
    }

    private static boolean areMeeting(Piece one, Piece other) {
        Set<List<Integer>> both = new HashSet<>(one.places);
        both.retainAll(other.places);
        return !both.isEmpty();
    }

    boolean meet(int tube, int other) {
        Piece one = of(pieces, tube);
        Piece another = of(pieces, other);
        refuse(tube == other, wrong());
        return areMeeting(one, another);
    }

    int black(int tube, int from, int to) {
        Piece piece = of(pieces, tube);
        refuse(from < 0 || to <= from || to > piece.path.length(), wrong());
        for (int unit = from; unit < to; unit++) {
            piece.blacked.add(unit);
        }
        return piece.blacked.size();
    }

    // ---- bending ----

    int bends(int tube) {
        return bendsOf(of(pieces, tube).path).size();
    }

    private static int[][] identity() {
        return new int[][] {{1, 0, 0}, {0, 1, 0}, {0, 0, 1}};
    }

    private static int[][] times(int[][] one, int[][] other) {
        int[][] all = new int[3][3];
        for (int i = 0; i < 3; i++) {
            for (int j = 0; j < 3; j++) {
                for (int k = 0; k < 3; k++) {
                    all[i][j] += one[i][k] * other[k][j];
                }
            }
        }
        return all;
    }

    private static int[][] turnedOver(int[][] one) {
        int[][] all = new int[3][3];
        for (int i = 0; i < 3; i++) {
            for (int j = 0; j < 3; j++) {
                all[i][j] = one[j][i];
            }
        }
        return all;
    }

    private static int[] step(char letter) {
        return STEPS[LETTERS.indexOf(letter)];
    }

    /** The quarter turn from one way to another: 1 in the axis of both, and u to v, v to -u in their plane. */
    private static int[][] quarter(int[] u, int[] v) {
        int[] axis = {u[1] * v[2] - u[2] * v[1], u[2] * v[0] - u[0] * v[2], u[0] * v[1] - u[1] * v[0]};
        int[][] turn = new int[3][3];
        for (int i = 0; i < 3; i++) {
            for (int j = 0; j < 3; j++) {
                turn[i][j] = axis[i] * axis[j] + v[i] * u[j] - u[i] * v[j];
            }
        }
        return turn;
    }

    /** The places of glass of which some bends are made: each bend as the glass itself has it, laid one by one. */
    private static List<List<Integer>> halfBent(Piece piece, Set<Integer> made) {
        List<Integer> bends = bendsOf(piece.path);
        int[][] whole = identity();
        int[][] half = identity();
        int[] first = step(piece.path.charAt(0));
        int[] at = {0, 0, 0};
        List<List<Integer>> places = new ArrayList<>();
        places.add(List.of(0, 0, 0));
        for (int i = 0; i < piece.path.length(); i++) {
            int bend = bends.indexOf(i);
            if (bend >= 0) {
                int[][] turn = quarter(step(piece.path.charAt(i - 1)), step(piece.path.charAt(i)));
                int[][] own = times(turnedOver(whole), times(turn, whole));
                whole = times(turn, whole);
                half = made.contains(bend) ? times(half, own) : half;
            }
            for (int axis = 0; axis < 3; axis++) {
                for (int k = 0; k < 3; k++) {
                    at[axis] += half[axis][k] * first[k];
                }
            }
            places.add(List.of(at[0], at[1], at[2]));
        }
        return places;
    }

    private static boolean isMetTwice(Piece piece, Set<Integer> made) {
        List<List<Integer>> places = halfBent(piece, made);
        return new HashSet<>(places).size() < places.size();
    }

    private static boolean canMake(Piece piece, List<Integer> order) {
        Set<Integer> made = new TreeSet<>();
        for (int bend : order) {
            made.add(bend);
            if (isMetTwice(piece, made)) {
                return false;
            }
        }
        return true;
    }

    private static List<Integer> orderOf(Piece piece) {
        if (!piece.isSought) {
            piece.order = seek(piece, new ArrayList<>(), bendsOf(piece.path).size());
            piece.isSought = true;
        }
        return piece.order;
    }

    private static List<Integer> seek(Piece piece, List<Integer> made, int bends) {
        if (made.size() == bends) {
            return made;
        }
        for (int bend = 0; bend < bends; bend++) {
            List<Integer> then = new ArrayList<>(made);
            then.add(bend);
            if (!made.contains(bend) && !isMetTwice(piece, new TreeSet<>(then))) {
                List<Integer> found = seek(piece, then, bends);
                if (found != null) {
                    return found;
                }
            }
        }
        return null;
    }

    private static int heatOf(Piece piece) {
        List<Integer> order = orderOf(piece);
        int heat = 10 * order.size();
        for (int i = 1; i < order.size(); i++) {
            int away = order.get(i) - order.get(i - 1);
            heat += away == 1 || away == -1 ? 0 : 5;
        }
        return heat;
    }

    int orderAt(int tube, int index) {
        List<Integer> order = orderOf(of(pieces, tube));
        refuse(order == null || !isBetween(index, 0, order.size() - 1), nothing());
        return order.get(index);
    }

    boolean canBend(int tube, long order) {
        Piece piece = of(pieces, tube);
        int bends = bendsOf(piece.path).size();
        List<Integer> told = new ArrayList<>();
        for (char digit : (order == 0 ? "" : "" + order).toCharArray()) {
            told.add(digit - '1');
        }
        Set<Integer> all = new TreeSet<>(told);
        boolean isAll = told.size() == bends && all.size() == bends && all.stream().allMatch(i -> isBetween(i, 0, bends - 1));
        refuse(!isAll, wrong());
        return canMake(piece, told);
    }

    int heat(int tube) {
        Piece piece = of(pieces, tube);
        refuse(orderOf(piece) == null, nothing());
        return heatOf(piece);
    }

    // ---- gas ----

    int setCoat(int tube, int coat) {
        Piece piece = of(pieces, tube);
        refuse(!isBetween(coat, 0, 5), wrong());
        refuse(piece.gas != 0, refused());
        int before = piece.coat;
        piece.coat = coat;
        return before;
    }

    private static int restOf(Piece piece) {
        int rest = 100000;
        for (int minute = 1; minute <= piece.minutes; minute++) {
            rest /= 2;
            if (minute % 10 == 0) {
                rest /= 2;
            }
        }
        return rest;
    }

    int pump(int tube, int minutes) {
        Piece piece = of(pieces, tube);
        refuse(!isBetween(minutes, 1, 99), wrong());
        refuse(piece.gas != 0, refused());
        piece.minutes += minutes;
        return restOf(piece);
    }

    boolean burn(int tube, int heat) {
        Piece piece = of(pieces, tube);
        refuse(!isBetween(heat, 0, 400), wrong());
        refuse(piece.gas != 0 || restOf(piece) > 50, refused());
        piece.isBurned |= heat >= 200;
        return piece.isBurned;
    }

    private static int offOf(Piece piece) {
        int right = 100 / piece.width + 4;
        return piece.pressure > right ? piece.pressure - right : right - piece.pressure;
    }

    int fill(int tube, char gas, int pressure) {
        Piece piece = of(pieces, tube);
        refuse("na".indexOf(gas) < 0 || !isBetween(pressure, 1, 99), wrong());
        refuse(piece.gas != 0, refused());
        piece.gas = gas;
        piece.pressure = pressure;
        return offOf(piece);
    }

    private static boolean lights(Piece piece) {
        return piece.isBurned && piece.gas != 0 && offOf(piece) <= 3 && piece.leaked < 40;
    }

    char stateOf(int tube) {
        Piece piece = of(pieces, tube);
        char state = 'b';
        state = piece.minutes > 0 ? 'p' : state;
        state = piece.isBurned ? 'o' : state;
        state = piece.gas != 0 && lights(piece) ? 'l' : state;
        state = piece.gas != 0 && piece.leaked >= 20 ? 'f' : state;
        return piece.gas != 0 && !lights(piece) ? 'x' : state;
    }

    private static int[] colours(Piece piece, boolean isDay) {
        int[] light;
        if (piece.coat == 4) {
            light = piece.gas == 'n' ? new int[] {255, 0, 0} : new int[] {60, 0, 0};
        } else if (piece.coat == 5) {
            light = piece.gas == 'n' ? new int[] {0, 0, 20} : new int[] {0, 0, 255};
        } else if (piece.coat == 1) {
            light = piece.gas == 'n' ? new int[] {227, 130, 110} : new int[] {230, 230, 230};
        } else if (piece.gas == 'n') {
            light = new int[] {255, 60, 20};
        } else if (piece.coat == 2) {
            light = new int[] {60, 255, 90};
        } else if (piece.coat == 3) {
            light = new int[] {255, 120, 170};
        } else {
            light = new int[] {60, 100, 255};
        }
        return isDay ? Arrays.stream(light).map(part -> part / 3).toArray() : light;
    }

    int light(int tube, int unit, boolean isDay, char part) {
        Piece piece = of(pieces, tube);
        refuse("rgb".indexOf(part) < 0 || !isBetween(unit, 0, piece.path.length() - 1), wrong());
        return lights(piece) && !piece.blacked.contains(unit) ? colours(piece, isDay)["rgb".indexOf(part)] : 0;
    }

    int pass(int years) {
        refuse(!isBetween(years, 1, 50), wrong());
        refuse(now + years > 1000, full());
        for (Power power : powers) {
            if (2L * rowSum(power) < power.load) {
                for (int year = 0; year < years; year++) {
                    power.load = Math.max(0, power.load - 50);
                }
            }
        }
        for (int year = 0; year < years; year++) {
            for (Piece piece : pieces) {
                if (piece.gas != 0) {
                    boolean isHard = orderOf(piece) != null && heatOf(piece) > 60;
                    piece.leaked += restOf(piece) / 10 + 1 + (isHard ? 3 : 0);
                }
            }
            now++;
        }
        return now;
    }

    int leaked(int tube) {
        return of(pieces, tube).leaked;
    }

    // ---- volts ----

    private static int voltsOf(Piece piece) {
        int along = List.of(40, 32, 28, 24).get(WIDTHS.indexOf(piece.width)) * piece.path.length();
        return 250 + (piece.gas == 'n' ? along * 13 / 10 : along) + 5 * piece.leaked;
    }

    private int rowSum(Power power) {
        return power.row.stream().map(pieces::get).filter(piece -> piece.gas != 0).mapToInt(Model::voltsOf).sum();
    }

    private boolean feeds(Power power) {
        int wet = 0;
        for (int tube : power.row) {
            Piece piece = pieces.get(tube);
            if (!lights(piece)) {
                return false;
            }
            wet += piece.sign >= 0 && boards.get(piece.sign).isWet ? 1 : 0;
        }
        return !power.row.isEmpty() && rowSum(power) <= power.load - 100 * wet;
    }

    int volts(int tube) {
        Piece piece = of(pieces, tube);
        refuse(piece.gas == 0, refused());
        return voltsOf(piece);
    }

    int transformer(int load) {
        refuse(!isBetween(load, 100, 15000), wrong());
        refuse(powers.size() == 8, full());
        Power power = new Power();
        power.load = load;
        powers.add(power);
        return powers.size() - 1;
    }

    int load(int transformer, int tube) {
        Power power = of(powers, transformer);
        Piece piece = of(pieces, tube);
        refuse(piece.row >= 0, refused());
        piece.row = transformer;
        power.row.add(tube);
        return power.row.size();
    }

    int loadOf(int transformer) {
        return of(powers, transformer).load;
    }

    int rowVolts(int transformer) {
        return rowSum(of(powers, transformer));
    }

    boolean rowLights(int transformer) {
        return feeds(of(powers, transformer));
    }

    // ---- signs, cams, words ----

    int sign(int width, int height) {
        refuse(!isBetween(width, 10, 400) || !isBetween(height, 10, 400), wrong());
        refuse(boards.size() == 6, full());
        Board board = new Board();
        board.width = width;
        board.height = height;
        boards.add(board);
        return boards.size() - 1;
    }

    int hang(int sign, int tube, char letter) {
        Board board = of(boards, sign);
        Piece piece = of(pieces, tube);
        refuse(!isBetween(letter, 'A', 'Z'), wrong());
        refuse(piece.sign >= 0 || board.hung.stream().anyMatch(i -> areMeeting(pieces.get(i), piece)), refused());
        piece.sign = sign;
        piece.letter = letter;
        board.hung.add(tube);
        return board.hung.size();
    }

    boolean wet(int sign, boolean is) {
        Board board = of(boards, sign);
        boolean before = board.isWet;
        board.isWet = is;
        return before;
    }

    int cam(int period, int bits) {
        refuse(!isBetween(period, 1, 12), wrong());
        refuse(bits < 0 || bits >= Math.pow(2, period), wrong());
        refuse(wheels.size() == 8, full());
        Wheel wheel = new Wheel();
        wheel.period = period;
        wheel.bits = bits;
        wheels.add(wheel);
        return wheels.size() - 1;
    }

    boolean wire(int tube, char relay, int cam, int other) {
        Piece piece = of(pieces, tube);
        of(wheels, cam);
        if (relay != 'd' && relay != 'n') {
            of(wheels, other);
        }
        refuse("dnao".indexOf(relay) < 0, wrong());
        boolean isNew = piece.cam < 0;
        piece.relay = relay;
        piece.cam = cam;
        piece.other = relay == 'd' || relay == 'n' ? -1 : other;
        return isNew;
    }

    char stick(int cam, char how) {
        Wheel wheel = of(wheels, cam);
        refuse("10l-".indexOf(how) < 0, wrong());
        char before = wheel.how;
        wheel.how = how;
        return before;
    }

    private boolean isOn(int cam, int second) {
        Wheel wheel = wheels.get(cam);
        String shown = "";
        for (int i = 0; i < wheel.period; i++) {
            shown += wheel.bits / (1 << i) % 2;
        }
        if (wheel.how == 'l') {
            shown = shown.charAt(wheel.period - 1) + shown.substring(0, wheel.period - 1);
        }
        return wheel.how == '1' || wheel.how != '0' && shown.charAt(second % wheel.period) == '1';
    }

    private boolean isLit(Piece piece, int second) {
        if (piece.row < 0 || piece.cam < 0 || !feeds(powers.get(piece.row))) {
            return false;
        }
        switch (piece.relay) {
            case 'd':
                return isOn(piece.cam, second);
            case 'n':
                return !isOn(piece.cam, second);
            case 'a':
                return isOn(piece.cam, second) && isOn(piece.other, second);
            default:
                return isOn(piece.cam, second) || isOn(piece.other, second);
        }
    }

    private String wordOf(Board board, int second) {
        String word = "";
        for (int tube : board.hung) {
            word += isLit(pieces.get(tube), second) ? "" + pieces.get(tube).letter : "";
        }
        return word;
    }

    boolean isLit(int tube, int second) {
        Piece piece = of(pieces, tube);
        refuse(second < 0, wrong());
        return isLit(piece, second);
    }

    int letters(int sign, int second) {
        Board board = of(boards, sign);
        refuse(second < 0, wrong());
        return wordOf(board, second).length();
    }

    char letterAt(int sign, int second, int index) {
        Board board = of(boards, sign);
        refuse(second < 0, wrong());
        String word = wordOf(board, second);
        refuse(!isBetween(index, 0, word.length() - 1), nothing());
        return word.charAt(index);
    }

    int mean(int sign, char letter, boolean isNew) {
        List<String> words = of(boards, sign).words;
        refuse(!isBetween(letter, 'A', 'Z'), wrong());
        int last = words.size() - 1;
        if (isNew) {
            refuse(words.size() == 6, full());
            words.add("" + letter);
        } else {
            refuse(words.isEmpty() || words.get(last).length() == 8, refused());
            words.set(last, words.get(last) + letter);
        }
        return words.size();
    }

    int wrongAt(int sign) {
        Board board = of(boards, sign);
        for (int second = 0; second < 360; second++) {
            String word = wordOf(board, second);
            if (!word.isEmpty() && !board.words.contains(word)) {
                return second;
            }
        }
        return -1;
    }

    int risks(int sign) {
        of(boards, sign);
        int ways = 0;
        for (Wheel wheel : wheels) {
            char now = wheel.how;
            for (char how : "10l".toCharArray()) {
                wheel.how = how;
                ways += how != now && wrongAt(sign) >= 0 ? 1 : 0;
            }
            wheel.how = now;
        }
        return ways;
    }

    int mixed(int sign, int second, boolean isDay, char part) {
        Board board = of(boards, sign);
        refuse(second < 0 || "rgb".indexOf(part) < 0, wrong());
        List<Integer> units = new ArrayList<>();
        for (int tube : board.hung) {
            for (int unit = 0; unit < pieces.get(tube).path.length(); unit++) {
                if (isLit(pieces.get(tube), second) && !pieces.get(tube).blacked.contains(unit)) {
                    units.add(light(tube, unit, isDay, part));
                }
            }
        }
        return units.isEmpty() ? 0 : units.stream().mapToInt(i -> i).sum() / units.size();
    }

    // ---- frames, permits, sky ----

    int anchor(int sign, char wall, int many) {
        Board board = of(boards, sign);
        refuse("cbo".indexOf(wall) < 0 || !isBetween(many, 1, 20), wrong());
        board.bears += many * List.of(400, 200, 80).get("cbo".indexOf(wall));
        return board.bears;
    }

    boolean holds(int sign, int wind, int ice) {
        Board board = of(boards, sign);
        refuse(!isBetween(wind, 0, 100) || !isBetween(ice, 0, 100), wrong());
        int all = board.width * board.height * wind * wind / 10000;
        all += (board.width + board.height) * ice / 10;
        for (int tube : board.hung) {
            all += pieces.get(tube).path.length() / 10;
        }
        return all <= board.bears - (Math.max(board.width, board.height) > 200 ? 1 : 0);
    }

    boolean isReached(int tube) {
        Piece piece = of(pieces, tube);
        if (piece.sign < 0) {
            return true;
        }
        for (int other : boards.get(piece.sign).hung) {
            for (List<Integer> above : pieces.get(other).places) {
                for (List<Integer> own : piece.places) {
                    if (other != tube && above.subList(0, 2).equals(own.subList(0, 2)) && above.get(2) > own.get(2)) {
                        return false;
                    }
                }
            }
        }
        return true;
    }

    long lightOf(int sign) {
        long sum = 0;
        for (int tube : of(boards, sign).hung) {
            for (int unit = 0; unit < pieces.get(tube).path.length(); unit++) {
                for (char part : "rgb".toCharArray()) {
                    sum += light(tube, unit, false, part);
                }
            }
        }
        return sum;
    }

    char permit(int sign, int street, int hour, int sleeper) {
        Board board = of(boards, sign);
        refuse(!isBetween(street, 0, 3) || !isBetween(hour, 1, 24) || !isBetween(sleeper, 0, 9999), wrong());
        boolean isModern = false;
        boolean isQuick = false;
        for (int tube : board.hung) {
            Piece piece = pieces.get(tube);
            isModern |= piece.gas == 'a' || piece.coat == 4 || piece.coat == 5;
            isQuick |= piece.cam >= 0 && wheels.get(piece.cam).period < 3;
            isQuick |= piece.other >= 0 && wheels.get(piece.other).period < 3;
        }
        if (board.width * board.height > List.of(90000, 40000, 10000, 6000).get(street)) {
            return 'a';
        }
        if (lightOf(sign) > List.of(90000, 40000, 10000, 5000).get(street)) {
            return 'l';
        }
        if (hour > List.of(24, 24, 22, 21).get(street)) {
            return 'h';
        }
        if (street == 3 && isModern) {
            return 'g';
        }
        return street == 2 && isQuick && sleeper < 100 ? 's' : 'y';
    }

    boolean isDark(int sign, int shield, int day, int hour) {
        of(boards, sign);
        refuse(!isBetween(shield, 0, 90) || !isBetween(day, 1, 366) || !isBetween(hour, 0, 23), wrong());
        double up = lightOf(sign) * (90.0 - shield) / 90.0;
        boolean areBirds = isBetween(day, 80, 150) || isBetween(day, 240, 310);
        // A light by light / 90 that is just below a bound stays far from it by more than a double is off.
        return up + 1e-6 < (areBirds && hour >= 22 ? 1000 : 20000);
    }

    // ---- old signs ----

    int mark(int x, int y) {
        refuse(!isBetween(x, -500, 500) || !isBetween(y, -500, 500), wrong());
        refuse(marks.size() == 12, full());
        marks.add(List.of(x, y));
        return marks.size();
    }

    /** How many marks it fits, and the move. */
    private int[] traceOf(Piece piece) {
        Set<List<Integer>> flat = new LinkedHashSet<>();
        piece.places.forEach(place -> flat.add(place.subList(0, 2)));
        Set<List<Integer>> moves = new HashSet<>();
        marks.forEach(mark -> flat.forEach(place ->
                moves.add(List.of(mark.get(0) - place.get(0), mark.get(1) - place.get(1)))));
        int[] best = null;
        for (List<Integer> move : moves) {
            int fitted = 0;
            for (List<Integer> mark : marks) {
                fitted += flat.contains(List.of(mark.get(0) - move.get(0), mark.get(1) - move.get(1))) ? 1 : 0;
            }
            int[] found = {-fitted, Math.abs(move.get(0)) + Math.abs(move.get(1)), move.get(0), move.get(1)};
            best = best == null || Arrays.compare(found, best) < 0 ? found : best;
        }
        return best == null ? new int[4] : best;
    }

    int fits(int tube) {
        return -traceOf(of(pieces, tube))[0];
    }

    int trace(int tube, boolean isX) {
        Piece piece = of(pieces, tube);
        refuse(marks.isEmpty(), nothing());
        return traceOf(piece)[isX ? 2 : 3];
    }

    int traced() {
        refuse(marks.isEmpty() || pieces.isEmpty(), nothing());
        int best = 0;
        for (int tube = 1; tube < pieces.size(); tube++) {
            best = fits(tube) > fits(best) ? tube : best;
        }
        return best;
    }

    boolean keep(int tube, int units, int coat) {
        Piece piece = of(pieces, tube);
        refuse(!isBetween(units, 0, piece.path.length()) || !isBetween(coat, 0, 5), wrong());
        boolean isHalf = units >= piece.path.length() - units;
        return isHalf && (piece.coat == 0 || piece.coat == coat);
    }

    // ---- the week ----

    boolean rain(int day, boolean is) {
        refuse(!isBetween(day, 0, 30), wrong());
        return is ? !rainy.add(day) : rainy.remove(day);
    }

    private boolean isAnyUnbendable() {
        return pieces.stream().anyMatch(piece -> piece.sign >= 0 && orderOf(piece) == null);
    }

    private int hoursOf(Board board) {
        return board.hung.stream().mapToInt(tube -> pieces.get(tube).path.length()).sum() / 40 + 2;
    }

    private int endOfBending(int asked) {
        int hour = 0;
        for (Board board : boards) {
            for (int tube : board.hung) {
                hour += heatOf(pieces.get(tube)) / 20 + 1;
                if (tube == asked) {
                    return hour;
                }
            }
        }
        return -1;
    }

    int hungOn(int sign) {
        of(boards, sign);
        refuse(isAnyUnbendable() || boards.stream().anyMatch(board -> hoursOf(board) > 8), refused());
        int[] free = {0, 0, 0};
        int day = -1;
        for (int i = 0; i <= sign; i++) {
            Board board = boards.get(i);
            int who = free[1] < free[0] ? 1 : 0;
            who = free[2] < free[who] ? 2 : who;
            int begin = board.hung.stream().mapToInt(this::endOfBending).max().orElse(0);
            begin = Math.max(begin, free[who]);
            int hours = hoursOf(board);
            while (begin / 8 != (begin + hours - 1) / 8 || rainy.contains(begin / 8)) {
                begin++;
            }
            day = begin / 8;
            refuse(day > 60, nothing());
            free[who] = begin + hours;
        }
        return day;
    }

    int bentAt(int tube) {
        Piece piece = of(pieces, tube);
        refuse(piece.sign < 0 || isAnyUnbendable(), refused());
        return endOfBending(tube);
    }

    // ---- care ----

    long burnFor(int sign, int hours) {
        Board board = of(boards, sign);
        refuse(!isBetween(hours, 1, 9999), wrong());
        long sum = 0;
        for (int tube : board.hung) {
            Piece piece = pieces.get(tube);
            long lit = 0;
            for (int second = 0; second < 360; second++) {
                lit += isLit(piece, second) ? 1 : 0;
            }
            piece.age += hours * lit / 360;
            sum += piece.age;
        }
        return sum;
    }

    long age(int tube) {
        return of(pieces, tube).age;
    }

    int next() {
        int next = -1;
        long most = -1;
        for (int tube = 0; tube < pieces.size(); tube++) {
            Piece piece = pieces.get(tube);
            if (orderOf(piece) != null) {
                long care = piece.age / 100 + heatOf(piece) + 20L * piece.leaked;
                next = care > most ? tube : next;
                most = Math.max(most, care);
            }
        }
        refuse(next < 0, nothing());
        return next;
    }

    long spare(int tube) {
        Piece piece = of(pieces, tube);
        long before = piece.age;
        piece.age = 0;
        piece.minutes = 0;
        piece.isBurned = false;
        piece.gas = 0;
        piece.leaked = 0;
        return before;
    }

    int year() {
        return now;
    }

    int allUnits() {
        return pieces.stream().mapToInt(piece -> piece.path.length()).sum();
    }

    float lightShare() {
        refuse(pieces.isEmpty(), new ArithmeticException());
        return (float) pieces.stream().filter(Model::lights).count() / (float) pieces.size();
    }

    double meanBends() {
        refuse(pieces.isEmpty(), new ArithmeticException());
        return (double) pieces.stream().mapToInt(piece -> bendsOf(piece.path).size()).sum() / (double) pieces.size();
    }

    /** Nothing that the document tells makes a tube meet what it must not; an order that is missing is left. */
    boolean isSound() {
        return pieces.stream().allMatch(piece -> orderOf(piece) != null);
    }
}
