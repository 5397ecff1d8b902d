import java.util.ArrayList;
import java.util.Arrays;
import java.util.List;
import java.util.NoSuchElementException;

/** A shop of signs made of light. */
public final class Neonworks {
    private static final int MOST_LETTERS = 60;
    private static final int MOST_BENDS = 8;
    private static final int MOST_TUBES = 20;
    private static final int MOST_TRANSFORMERS = 8;
    private static final int MOST_SIGNS = 6;
    private static final int MOST_CAMS = 8;
    private static final int MOST_MARKS = 12;
    private static final int MOST_WORDS = 6;
    private static final int MOST_WORD_LETTERS = 8;
    private static final int FARTHEST = 500;
    private static final int LAST_YEAR = 1000;
    private static final int WATCHED_SECONDS = 360;
    private static final int SOUND_SECONDS = 12;
    private static final int DAY_HOURS = 8;

    // By the kind of width: 8, 10, 12, 15.
    private static final int[] LEAST_RUNS = {1, 2, 2, 3};
    private static final int[] RIGHT_PRESSURES = {16, 14, 12, 10};
    private static final int[] UNIT_VOLTS = {40, 32, 28, 24};

    // By the kind of street.
    private static final int[] AREA_LIMITS = {90000, 40000, 10000, 6000};
    private static final int[] LIGHT_LIMITS = {90000, 40000, 10000, 5000};
    private static final int[] HOUR_LIMITS = {24, 24, 22, 21};
    private static final int QUIET_STREET = 2;
    private static final int OLD_STREET = 3;

    private final Path path;
    private final Bender bender;
    private final Tracer tracer;
    private final Week week;
    private final List<Tube> tubes;
    private final List<Transformer> transformers;
    private final List<Sign> signs;
    private final List<Cam> cams;
    private int yearNow;

    public Neonworks() {
        path = new Path();
        bender = new Bender();
        tracer = new Tracer();
        week = new Week();
        tubes = new ArrayList<Tube>();
        transformers = new ArrayList<Transformer>();
        signs = new ArrayList<Sign>();
        cams = new ArrayList<Cam>();
        yearNow = 0;
    }

    // ---- the path ----

    public int type(char letter) throws IllegalArgumentException, IllegalStateException {
        int way = Path.wayOf(letter);
        if (way < 0) {
            throw new IllegalArgumentException("no such letter");
        }
        if (path.length >= MOST_LETTERS) {
            throw new IllegalStateException("the path is full");
        }
        return path.add(way);
    }

    public int erase() {
        return path.clear();
    }

    public char judge(int width) throws IllegalArgumentException {
        int kind = widthKind(width);
        if (kind < 0) {
            throw new IllegalArgumentException("no such width");
        }
        return path.verdict(kind);
    }

    public char copied() throws UnsupportedOperationException {
        if (path.length == 0) {
            throw new UnsupportedOperationException("the path is empty");
        }
        int found = path.copySigns();
        if (found >= 3) {
            return 'p';
        }
        return found == 2 ? 'd' : 'g';
    }

    // ---- tubes and their places ----

    public int tube(int width, int x, int y, int z)
            throws IllegalArgumentException, UnsupportedOperationException, IllegalStateException {
        int kind = widthKind(width);
        if (kind < 0 || isFar(x) || isFar(y) || isOut(z, 0, 50)) {
            throw new IllegalArgumentException("no such width, or a number out of range");
        }
        if (path.verdict(kind) != 'g' || z + path.lowest() < 0) {
            throw new UnsupportedOperationException("the path makes no tube");
        }
        if (tubes.size() >= MOST_TUBES) {
            throw new IllegalStateException("no more tubes");
        }
        tubes.add(new Tube(kind, Glass.along(path, x, y, z)));
        path.clear();
        return tubes.size() - 1;
    }

    public int units(int tube) throws IndexOutOfBoundsException {
        return tubeAt(tube).glass.walk.last;
    }

    public int at(int tube, int place, char axis) throws IndexOutOfBoundsException, IllegalArgumentException {
        Walk walk = tubeAt(tube).glass.walk;
        boolean isAxis = axis == 'x' || axis == 'y' || axis == 'z';
        if (!isAxis || isOut(place, 0, walk.last)) {
            throw new IllegalArgumentException("no such place or axis");
        }
        int found = walk.placeAt(place);
        if (axis == 'x') {
            return Walk.xOf(found);
        }
        return axis == 'y' ? Walk.yOf(found) : Walk.zOf(found);
    }

    public boolean meet(int tube, int other) throws IndexOutOfBoundsException, IllegalArgumentException {
        Tube one = tubeAt(tube);
        Tube another = tubeAt(other);
        if (tube == other) {
            throw new IllegalArgumentException("both are the same tube");
        }
        return one.glass.walk.touches(another.glass.walk);
    }

    public int black(int tube, int from, int to) throws IndexOutOfBoundsException, IllegalArgumentException {
        Tube found = tubeAt(tube);
        if (from < 0 || to <= from || to > found.glass.walk.last) {
            throw new IllegalArgumentException("no such units");
        }
        found.blackOut(from, to);
        return found.glass.walk.last - found.clearUnits();
    }

    // ---- bending ----

    public int bends(int tube) throws IndexOutOfBoundsException {
        return tubeAt(tube).glass.bendCount();
    }

    public int orderAt(int tube, int index) throws IndexOutOfBoundsException, NoSuchElementException {
        Glass glass = tubeAt(tube).glass;
        if (isOut(index, 0, glass.bendCount() - 1) || !bender.hasOrder(glass)) {
            throw new NoSuchElementException("no such bend, or no order");
        }
        return glass.order[index];
    }

    public boolean canBend(int tube, long order) throws IndexOutOfBoundsException, IllegalArgumentException {
        Glass glass = tubeAt(tube).glass;
        if (!bender.reads(order, glass.bendCount())) {
            throw new IllegalArgumentException("not all bends once each");
        }
        return bender.canMakeRead(glass);
    }

    public int heat(int tube) throws IndexOutOfBoundsException, NoSuchElementException {
        Glass glass = tubeAt(tube).glass;
        if (!bender.hasOrder(glass)) {
            throw new NoSuchElementException("no order can be made");
        }
        return glass.orderHeat();
    }

    // ---- coats, pumping and gas ----

    public int setCoat(int tube, int coat)
            throws IndexOutOfBoundsException, IllegalArgumentException, UnsupportedOperationException {
        Tube found = tubeAt(tube);
        if (isOut(coat, 0, 5)) {
            throw new IllegalArgumentException("no such coat");
        }
        if (found.air.isFilled()) {
            throw new UnsupportedOperationException("the tube is filled");
        }
        int before = found.coat;
        found.coat = coat;
        return before;
    }

    public int pump(int tube, int minutes)
            throws IndexOutOfBoundsException, IllegalArgumentException, UnsupportedOperationException {
        Air air = tubeAt(tube).air;
        if (isOut(minutes, 1, 99)) {
            throw new IllegalArgumentException("no such minutes");
        }
        if (air.isFilled()) {
            throw new UnsupportedOperationException("the tube is filled");
        }
        air.minutes += minutes;
        return air.rest();
    }

    public boolean burn(int tube, int heat)
            throws IndexOutOfBoundsException, IllegalArgumentException, UnsupportedOperationException {
        Air air = tubeAt(tube).air;
        if (isOut(heat, 0, 400)) {
            throw new IllegalArgumentException("no such heat");
        }
        if (air.isFilled() || air.rest() > 50) {
            throw new UnsupportedOperationException("the tube is filled, or has too much air");
        }
        if (heat >= 200) {
            air.isBurned = true;
        }
        return air.isBurned;
    }

    public int fill(int tube, char gas, int pressure)
            throws IndexOutOfBoundsException, IllegalArgumentException, UnsupportedOperationException {
        Air air = tubeAt(tube).air;
        if (gas != 'n' && gas != 'a' || isOut(pressure, 1, 99)) {
            throw new IllegalArgumentException("no such gas or pressure");
        }
        if (air.isFilled()) {
            throw new UnsupportedOperationException("the tube is filled");
        }
        return air.take(gas == 'n' ? Air.NEON : Air.ARGON, pressure);
    }

    public char stateOf(int tube) throws IndexOutOfBoundsException {
        return tubeAt(tube).air.look();
    }

    public int light(int tube, int unit, boolean isDay, char part)
            throws IndexOutOfBoundsException, IllegalArgumentException {
        Tube found = tubeAt(tube);
        int partNumber = partOf(part);
        if (partNumber < 0 || isOut(unit, 0, found.glass.walk.last - 1)) {
            throw new IllegalArgumentException("no such unit or part");
        }
        if (!found.air.shines() || found.isBlackAt(unit)) {
            return 0;
        }
        return found.unitLight(isDay, partNumber);
    }

    public int pass(int years) throws IllegalArgumentException, IllegalStateException {
        if (isOut(years, 1, 50)) {
            throw new IllegalArgumentException("no such years");
        }
        if (yearNow + years > LAST_YEAR) {
            throw new IllegalStateException("behind the last year");
        }
        // Loads wear by what their rows take ahead of the years, so before any tube leaks.
        for (int i = 0; i < transformers.size(); i++) {
            transformers.get(i).wear(years);
        }
        for (int i = 0; i < tubes.size(); i++) {
            Tube tube = tubes.get(i);
            if (tube.air.isFilled()) {
                tube.air.leak(years, isHard(tube.glass));
            }
        }
        yearNow += years;
        return yearNow;
    }

    public int leaked(int tube) throws IndexOutOfBoundsException {
        return tubeAt(tube).air.leaked;
    }

    // ---- volts and transformers ----

    public int volts(int tube) throws IndexOutOfBoundsException, UnsupportedOperationException {
        Tube found = tubeAt(tube);
        if (!found.air.isFilled()) {
            throw new UnsupportedOperationException("the tube is not filled");
        }
        return found.voltage();
    }

    public int transformer(int load) throws IllegalArgumentException, IllegalStateException {
        if (isOut(load, 100, 15000)) {
            throw new IllegalArgumentException("no such load");
        }
        if (transformers.size() >= MOST_TRANSFORMERS) {
            throw new IllegalStateException("no more transformers");
        }
        transformers.add(new Transformer(load));
        return transformers.size() - 1;
    }

    public int load(int transformer, int tube) throws IndexOutOfBoundsException, UnsupportedOperationException {
        Transformer found = transformerAt(transformer);
        Tube added = tubeAt(tube);
        if (added.power != null) {
            throw new UnsupportedOperationException("the tube is in a row");
        }
        added.power = found;
        found.row.add(added);
        return found.row.size();
    }

    public int loadOf(int transformer) throws IndexOutOfBoundsException {
        return transformerAt(transformer).strength;
    }

    public int rowVolts(int transformer) throws IndexOutOfBoundsException {
        return transformerAt(transformer).voltSum();
    }

    public boolean rowLights(int transformer) throws IndexOutOfBoundsException {
        return transformerAt(transformer).feeds();
    }

    // ---- signs, cams and words ----

    public int sign(int width, int height) throws IllegalArgumentException, IllegalStateException {
        if (isOut(width, 10, 400) || isOut(height, 10, 400)) {
            throw new IllegalArgumentException("no such size");
        }
        if (signs.size() >= MOST_SIGNS) {
            throw new IllegalStateException("no more signs");
        }
        signs.add(new Sign(width, height));
        return signs.size() - 1;
    }

    public int hang(int sign, int tube, char letter)
            throws IndexOutOfBoundsException, IllegalArgumentException, UnsupportedOperationException {
        Sign home = signAt(sign);
        Tube hung = tubeAt(tube);
        if (!isCapital(letter)) {
            throw new IllegalArgumentException("no such letter");
        }
        if (hung.home != null || home.isTouched(hung)) {
            throw new UnsupportedOperationException("the tube hangs, or meets one that does");
        }
        hung.home = home;
        hung.letter = letter;
        home.hung.add(hung);
        return home.hung.size();
    }

    public boolean wet(int sign, boolean is) throws IndexOutOfBoundsException {
        Sign found = signAt(sign);
        boolean before = found.isWet;
        found.isWet = is;
        return before;
    }

    public int cam(int period, int bits) throws IllegalArgumentException, IllegalStateException {
        if (isOut(period, 1, 12) || isOut(bits, 0, (1 << period) - 1)) {
            throw new IllegalArgumentException("no such period or bits");
        }
        if (cams.size() >= MOST_CAMS) {
            throw new IllegalStateException("no more cams");
        }
        cams.add(new Cam(period, bits));
        return cams.size() - 1;
    }

    public boolean wire(int tube, char relay, int cam, int other)
            throws IndexOutOfBoundsException, IllegalArgumentException {
        Tube found = tubeAt(tube);
        Cam first = camAt(cam);
        Cam second = relay == 'd' || relay == 'n' ? null : camAt(other);
        if (relay != 'd' && relay != 'n' && relay != 'a' && relay != 'o') {
            throw new IllegalArgumentException("no such relay");
        }
        boolean isNew = found.firstCam == null;
        found.relay = relay;
        found.firstCam = first;
        found.secondCam = second;
        return isNew;
    }

    public char stick(int cam, char how) throws IndexOutOfBoundsException, IllegalArgumentException {
        Cam found = camAt(cam);
        if (how != Cam.ON && how != Cam.OFF && how != Cam.LATE && how != Cam.FREE) {
            throw new IllegalArgumentException("no such way");
        }
        char before = found.how;
        found.how = how;
        return before;
    }

    public boolean isLit(int tube, int second) throws IndexOutOfBoundsException, IllegalArgumentException {
        Tube found = tubeAt(tube);
        refuseBefore0(second);
        return found.burnsAt(second);
    }

    public int letters(int sign, int second) throws IndexOutOfBoundsException, IllegalArgumentException {
        Sign found = signAt(sign);
        refuseBefore0(second);
        return found.litCount(second);
    }

    public char letterAt(int sign, int second, int index)
            throws IndexOutOfBoundsException, IllegalArgumentException, NoSuchElementException {
        Sign found = signAt(sign);
        refuseBefore0(second);
        Tube lit = found.litTube(second, index);
        if (lit == null) {
            throw new NoSuchElementException("no such letter");
        }
        return lit.letter;
    }

    public int mean(int sign, char letter, boolean isNew) throws IndexOutOfBoundsException,
            IllegalArgumentException, UnsupportedOperationException, IllegalStateException {
        Sign found = signAt(sign);
        if (!isCapital(letter)) {
            throw new IllegalArgumentException("no such letter");
        }
        if (!isNew && !found.takesMeantLetter()) {
            throw new UnsupportedOperationException("no word was begun, or it is full");
        }
        if (isNew && found.words >= MOST_WORDS) {
            throw new IllegalStateException("no more words");
        }
        found.addMeant(letter, isNew);
        return found.words;
    }

    public int wrongAt(int sign) throws IndexOutOfBoundsException {
        Sign found = signAt(sign);
        found.beginWatch();
        return found.firstWrong();
    }

    public int risks(int sign) throws IndexOutOfBoundsException {
        Sign found = signAt(sign);
        found.beginWatch();
        int count = 0;
        for (int i = 0; i < cams.size(); i++) {
            Cam cam = cams.get(i);
            count += riskOf(found, cam, Cam.ON) + riskOf(found, cam, Cam.OFF) + riskOf(found, cam, Cam.LATE);
        }
        return count;
    }

    public int mixed(int sign, int second, boolean isDay, char part)
            throws IndexOutOfBoundsException, IllegalArgumentException {
        Sign found = signAt(sign);
        int partNumber = partOf(part);
        if (second < 0 || partNumber < 0) {
            throw new IllegalArgumentException("no such second or part");
        }
        return found.blend(second, isDay, partNumber);
    }

    // ---- frames, permits and sky ----

    public int anchor(int sign, char wall, int many) throws IndexOutOfBoundsException, IllegalArgumentException {
        Sign found = signAt(sign);
        int each = anchorStrength(wall);
        if (each < 0 || isOut(many, 1, 20)) {
            throw new IllegalArgumentException("no such wall or number");
        }
        found.borne += each * many;
        return found.borne;
    }

    public boolean holds(int sign, int wind, int ice) throws IndexOutOfBoundsException, IllegalArgumentException {
        Sign found = signAt(sign);
        if (isOut(wind, 0, 100) || isOut(ice, 0, 100)) {
            throw new IllegalArgumentException("no such wind or ice");
        }
        return found.bears(wind, ice);
    }

    public boolean isReached(int tube) throws IndexOutOfBoundsException {
        Tube found = tubeAt(tube);
        return found.home == null || !found.home.isCovered(found);
    }

    public long lightOf(int sign) throws IndexOutOfBoundsException {
        return signAt(sign).nightLight();
    }

    public char permit(int sign, int street, int hour, int sleeper)
            throws IndexOutOfBoundsException, IllegalArgumentException {
        Sign found = signAt(sign);
        if (isOut(street, 0, 3) || isOut(hour, 1, 24) || isOut(sleeper, 0, 9999)) {
            throw new IllegalArgumentException("no such street, hour or sleeper");
        }
        if (found.width * found.height > AREA_LIMITS[street]) {
            return 'a';
        }
        if (found.nightLight() > LIGHT_LIMITS[street]) {
            return 'l';
        }
        if (hour > HOUR_LIMITS[street]) {
            return 'h';
        }
        if (street == OLD_STREET && found.hasModernLight()) {
            return 'g';
        }
        return street == QUIET_STREET && sleeper < 100 && found.flickers() ? 's' : 'y';
    }

    public boolean isDark(int sign, int shield, int day, int hour)
            throws IndexOutOfBoundsException, IllegalArgumentException {
        Sign found = signAt(sign);
        if (isOut(shield, 0, 90) || isOut(day, 1, 366) || isOut(hour, 0, 23)) {
            throw new IllegalArgumentException("no such shield, day or hour");
        }
        long up = found.nightLight() * (90 - shield) / 90;
        boolean hasBirds = !isOut(day, 80, 150) || !isOut(day, 240, 310);
        return up < (hasBirds && hour >= 22 ? 1000 : 20000);
    }

    // ---- old signs ----

    public int mark(int x, int y) throws IllegalArgumentException, IllegalStateException {
        if (isFar(x) || isFar(y)) {
            throw new IllegalArgumentException("a number is out of range");
        }
        if (tracer.marks >= MOST_MARKS) {
            throw new IllegalStateException("no more marks");
        }
        return tracer.addMark(x, y);
    }

    public int fits(int tube) throws IndexOutOfBoundsException {
        Tube found = tubeAt(tube);
        tracer.seek(found);
        return found.fitted;
    }

    public int trace(int tube, boolean isX) throws IndexOutOfBoundsException, NoSuchElementException {
        Tube found = tubeAt(tube);
        if (tracer.marks == 0) {
            throw new NoSuchElementException("there is no mark");
        }
        tracer.seek(found);
        return isX ? found.moveX : found.moveY;
    }

    public int traced() throws NoSuchElementException {
        if (tracer.marks == 0 || tubes.isEmpty()) {
            throw new NoSuchElementException("there is no mark, or no tube");
        }
        int best = 0;
        int most = -1;
        for (int i = 0; i < tubes.size(); i++) {
            Tube tube = tubes.get(i);
            tracer.seek(tube);
            if (tube.fitted > most) {
                most = tube.fitted;
                best = i;
            }
        }
        return best;
    }

    public boolean keep(int tube, int units, int coat) throws IndexOutOfBoundsException, IllegalArgumentException {
        Tube found = tubeAt(tube);
        int all = found.glass.walk.last;
        if (isOut(units, 0, all) || isOut(coat, 0, 5)) {
            throw new IllegalArgumentException("a number is out of range");
        }
        return units * 2 >= all && (found.coat == 0 || found.coat == coat);
    }

    // ---- the week ----

    public boolean rain(int day, boolean is) throws IllegalArgumentException {
        if (isOut(day, 0, Week.LAST_TOLD_DAY)) {
            throw new IllegalArgumentException("no such day");
        }
        return week.setRain(day, is);
    }

    public int hungOn(int sign) throws IndexOutOfBoundsException, UnsupportedOperationException,
            NoSuchElementException {
        signAt(sign);
        if (!areHungBendable() || hasLongSign()) {
            throw new UnsupportedOperationException("a tube cannot be bent, or a sign takes too long");
        }
        int day = dayOfHanging(sign);
        if (day < 0) {
            throw new NoSuchElementException("the sign is never hung");
        }
        return day;
    }

    public int bentAt(int tube) throws IndexOutOfBoundsException, UnsupportedOperationException {
        Tube found = tubeAt(tube);
        if (found.home == null || !areHungBendable()) {
            throw new UnsupportedOperationException("it hangs nowhere, or a tube cannot be bent");
        }
        return hourOfBending(found);
    }

    // ---- care ----

    public long burnFor(int sign, int hours) throws IndexOutOfBoundsException, IllegalArgumentException {
        Sign found = signAt(sign);
        if (isOut(hours, 1, 9999)) {
            throw new IllegalArgumentException("no such hours");
        }
        return found.burnOn(hours);
    }

    public long age(int tube) throws IndexOutOfBoundsException {
        return tubeAt(tube).hours;
    }

    public int next() throws NoSuchElementException {
        int worst = -1;
        long most = -1;
        for (int i = 0; i < tubes.size(); i++) {
            Tube tube = tubes.get(i);
            if (bender.hasOrder(tube.glass) && tube.care() > most) {
                most = tube.care();
                worst = i;
            }
        }
        if (worst < 0) {
            throw new NoSuchElementException("no tube can be bent");
        }
        return worst;
    }

    public long spare(int tube) throws IndexOutOfBoundsException {
        Tube found = tubeAt(tube);
        long before = found.hours;
        found.hours = 0;
        found.air.renew();
        return before;
    }

    // ---- the whole shop ----

    public int year() {
        return yearNow;
    }

    public int allUnits() {
        int sum = 0;
        for (int i = 0; i < tubes.size(); i++) {
            sum += tubes.get(i).glass.walk.last;
        }
        return sum;
    }

    public float lightShare() throws ArithmeticException {
        int all = tubes.size();
        if (all == 0) {
            throw new ArithmeticException("there are no tubes");
        }
        int shining = 0;
        for (int i = 0; i < all; i++) {
            if (tubes.get(i).air.shines()) {
                shining++;
            }
        }
        return (float) shining / (float) all;
    }

    public double meanBends() throws ArithmeticException {
        int all = tubes.size();
        if (all == 0) {
            throw new ArithmeticException("there are no tubes");
        }
        int sum = 0;
        for (int i = 0; i < all; i++) {
            sum += tubes.get(i).glass.bendCount();
        }
        return (double) sum / (double) all;
    }

    public boolean isSound() {
        for (int i = 0; i < tubes.size(); i++) {
            if (!isTubeSound(tubes.get(i))) {
                return false;
            }
        }
        for (int i = 0; i < transformers.size(); i++) {
            if (!transformers.get(i).isWithinLoad()) {
                return false;
            }
        }
        for (int i = 0; i < signs.size(); i++) {
            if (!signs.get(i).areWordsSound()) {
                return false;
            }
        }
        return true;
    }

    // ---- helpers of the face ----

    private Tube tubeAt(int number) {
        if (number < 0 || number >= tubes.size()) {
            throw new IndexOutOfBoundsException("no such tube");
        }
        return tubes.get(number);
    }

    private Transformer transformerAt(int number) {
        if (number < 0 || number >= transformers.size()) {
            throw new IndexOutOfBoundsException("no such transformer");
        }
        return transformers.get(number);
    }

    private Sign signAt(int number) {
        if (number < 0 || number >= signs.size()) {
            throw new IndexOutOfBoundsException("no such sign");
        }
        return signs.get(number);
    }

    private Cam camAt(int number) {
        if (number < 0 || number >= cams.size()) {
            throw new IndexOutOfBoundsException("no such cam");
        }
        return cams.get(number);
    }

    private static void refuseBefore0(int second) {
        if (second < 0) {
            throw new IllegalArgumentException("no such second");
        }
    }

    private static boolean isOut(int number, int least, int most) {
        return number < least || number > most;
    }

    private static boolean isFar(int number) {
        return isOut(number, -FARTHEST, FARTHEST);
    }

    private static boolean isCapital(char letter) {
        return letter >= 'A' && letter <= 'Z';
    }

    private static int widthKind(int width) {
        if (width == 8) {
            return 0;
        }
        if (width == 10) {
            return 1;
        }
        if (width == 12) {
            return 2;
        }
        return width == 15 ? 3 : -1;
    }

    private static int partOf(char part) {
        if (part == 'r') {
            return 0;
        }
        if (part == 'g') {
            return 1;
        }
        return part == 'b' ? 2 : -1;
    }

    private static int anchorStrength(char wall) {
        if (wall == 'c') {
            return 400;
        }
        if (wall == 'b') {
            return 200;
        }
        return wall == 'o' ? 80 : -1;
    }

    private boolean isHard(Glass glass) {
        return bender.hasOrder(glass) && glass.orderHeat() > 60;
    }

    private int riskOf(Sign sign, Cam cam, char how) {
        if (cam.how == how) {
            return 0;
        }
        char before = cam.how;
        cam.how = how;
        boolean isWrong = sign.firstWrong() >= 0;
        cam.how = before;
        return isWrong ? 1 : 0;
    }

    private boolean areHungBendable() {
        for (int i = 0; i < tubes.size(); i++) {
            Tube tube = tubes.get(i);
            if (tube.home != null && !bender.hasOrder(tube.glass)) {
                return false;
            }
        }
        return true;
    }

    private boolean hasLongSign() {
        for (int i = 0; i < signs.size(); i++) {
            if (signs.get(i).hangingHours() > DAY_HOURS) {
                return true;
            }
        }
        return false;
    }

    private int hourOfBending(Tube asked) {
        int hour = 0;
        for (int i = 0; i < signs.size(); i++) {
            List<Tube> hung = signs.get(i).hung;
            for (int j = 0; j < hung.size(); j++) {
                hour += hung.get(j).bendingHours();
                if (hung.get(j) == asked) {
                    return hour;
                }
            }
        }
        return hour;
    }

    private int dayOfHanging(int asked) {
        week.begin();
        int bent = 0;
        int day = -1;
        for (int i = 0; i <= asked && i < signs.size(); i++) {
            Sign sign = signs.get(i);
            bent += sign.bendingHours();
            // A sign without tubes waits for no bending.
            int ready = sign.hung.isEmpty() ? 0 : bent;
            day = week.hangNext(ready, sign.hangingHours());
        }
        return day;
    }

    private boolean isTubeSound(Tube tube) {
        Walk walk = tube.glass.walk;
        return !walk.meetsItself()
                && (tube.home == null || !tube.home.isTouched(tube))
                && bender.comesToItsPath(tube.glass)
                && bender.hasOrder(tube.glass);
    }

    /** The letters typed so far, each as a way: 0 to 5, the opposite one of each differing in the last bit. */
    private static final class Path {
        private static final int[] STEPS_X = {1, -1, 0, 0, 0, 0};
        private static final int[] STEPS_Y = {0, 0, 1, -1, 0, 0};
        private static final int[] STEPS_Z = {0, 0, 0, 0, 1, -1};

        final int[] ways = new int[MOST_LETTERS];
        final Walk walk = new Walk();
        int length;

        static int wayOf(char letter) {
            return "ewnsud".indexOf(letter);
        }

        int add(int way) {
            if (length < ways.length) {
                ways[length] = way;
                length++;
            }
            return length;
        }

        int clear() {
            int before = length;
            length = 0;
            return before;
        }

        char verdict(int kind) {
            if (length == 0) {
                return '-';
            }
            if (turnsBack()) {
                return 'o';
            }
            if (countBends() > MOST_BENDS) {
                return 'b';
            }
            if (shortestInnerRun() < LEAST_RUNS[kind]) {
                return 'r';
            }
            walk.follow(this, 0, 0, 0);
            return walk.meetsItself() ? 'm' : 'g';
        }

        int copySigns() {
            int found = 0;
            if (shortestInnerRun() < 3) {
                found++;
            }
            if (isFlat()) {
                found++;
            }
            if (countBends() >= 10) {
                found++;
            }
            if (turnsToOneSide()) {
                found++;
            }
            return found;
        }

        /** How far below its beginning the path comes, as a number of at most 0. */
        int lowest() {
            int z = 0;
            int low = 0;
            for (int i = 0; i < length; i++) {
                z += STEPS_Z[ways[i]];
                low = Math.min(low, z);
            }
            return low;
        }

        private boolean turnsBack() {
            for (int i = 1; i < length; i++) {
                if (ways[i] == (ways[i - 1] ^ 1)) {
                    return true;
                }
            }
            return false;
        }

        private int countBends() {
            int count = 0;
            for (int i = 1; i < length; i++) {
                if (ways[i] != ways[i - 1]) {
                    count++;
                }
            }
            return count;
        }

        /** More than any run can have if there is no inner run. */
        private int shortestInnerRun() {
            int shortest = MOST_LETTERS + 1;
            int bendAhead = 0;
            for (int i = 1; i < length; i++) {
                if (ways[i] != ways[i - 1]) {
                    if (bendAhead > 0) {
                        shortest = Math.min(shortest, i - bendAhead);
                    }
                    bendAhead = i;
                }
            }
            return shortest;
        }

        private boolean isFlat() {
            for (int i = 0; i < length; i++) {
                if (STEPS_Z[ways[i]] != 0) {
                    return false;
                }
            }
            return true;
        }

        private boolean turnsToOneSide() {
            int left = 0;
            int right = 0;
            for (int i = 1; i < length; i++) {
                int turn = sideOf(ways[i - 1], ways[i]);
                if (turn > 0) {
                    left++;
                } else if (turn < 0) {
                    right++;
                }
            }
            return left > 0 && right == 0 || right > 0 && left == 0;
        }

        /** 1 for a bend to the left in the plane of x and y, -1 to the right, 0 for all else. */
        private static int sideOf(int ahead, int behind) {
            return STEPS_X[ahead] * STEPS_Y[behind] - STEPS_Y[ahead] * STEPS_X[behind];
        }
    }

    /** The places that glass comes to, each packed into one number: x above y above z. */
    private static final class Walk {
        private static final int X_SHIFT = 19;
        private static final int Y_SHIFT = 8;
        private static final int FLAT_OFFSET = 1024;
        private static final int Z_OFFSET = 128;
        // What a unit of each way adds to a packed place.
        private static final int[] STEPS = {524288, -524288, 256, -256, 1, -1};

        private final int[] places = new int[MOST_LETTERS + 1];
        int last;

        void begin(int place) {
            places[0] = place;
            last = 0;
        }

        void goOn(int way) {
            if (last + 1 < places.length && way >= 0 && way < STEPS.length) {
                places[last + 1] = places[last] + STEPS[way];
                last++;
            }
        }

        void follow(Path path, int x, int y, int z) {
            begin((x + FLAT_OFFSET) << X_SHIFT | (y + FLAT_OFFSET) << Y_SHIFT | (z + Z_OFFSET));
            for (int i = 0; i < path.length; i++) {
                goOn(path.ways[i]);
            }
        }

        int placeAt(int index) {
            return index < 0 || index > last ? places[0] : places[index];
        }

        static int xOf(int place) {
            return (place >> X_SHIFT) - FLAT_OFFSET;
        }

        static int yOf(int place) {
            return (place >> Y_SHIFT & 2047) - FLAT_OFFSET;
        }

        static int zOf(int place) {
            return (place & 255) - Z_OFFSET;
        }

        boolean meetsItself() {
            for (int i = 0; i <= last; i++) {
                if (comesTo(places[i], i + 1)) {
                    return true;
                }
            }
            return false;
        }

        boolean touches(Walk other) {
            for (int i = 0; i <= last; i++) {
                if (other.comesTo(places[i], 0)) {
                    return true;
                }
            }
            return false;
        }

        boolean liesUnder(Walk other) {
            for (int i = 0; i <= last; i++) {
                if (other.comesOver(places[i])) {
                    return true;
                }
            }
            return false;
        }

        boolean isSameAs(Walk other) {
            if (last != other.last) {
                return false;
            }
            for (int i = 0; i <= last; i++) {
                if (places[i] != other.places[i]) {
                    return false;
                }
            }
            return true;
        }

        // A unit leads nearer by one at most, so as many places as it is away can be left out.
        private boolean comesTo(int place, int from) {
            int away = 0;
            for (int i = from; i <= last; i += Math.max(away, 1)) {
                away = Math.abs(xOf(places[i]) - xOf(place))
                        + Math.abs(yOf(places[i]) - yOf(place))
                        + Math.abs(zOf(places[i]) - zOf(place));
                if (away == 0) {
                    return true;
                }
            }
            return false;
        }

        private boolean comesOver(int place) {
            int away = 0;
            for (int i = 0; i <= last; i += Math.max(away, 1)) {
                away = Math.abs(xOf(places[i]) - xOf(place)) + Math.abs(yOf(places[i]) - yOf(place));
                if (away == 0 && zOf(places[i]) > zOf(place)) {
                    return true;
                }
            }
            return false;
        }
    }

    /** A bent piece of glass: its places, its runs, and the order of its bends once it was looked for. */
    private static final class Glass {
        static final int UNSOUGHT = 0;
        static final int FOUND = 1;
        static final int NONE = 2;

        final Walk walk = new Walk();
        final int[] runWays = new int[MOST_BENDS + 1];
        final int[] runLengths = new int[MOST_BENDS + 1];
        final int[] order = new int[MOST_BENDS];
        int runs;
        int search = UNSOUGHT;

        static Glass along(Path path, int x, int y, int z) {
            Glass glass = new Glass();
            glass.walk.follow(path, x, y, z);
            for (int i = 0; i < path.length; i++) {
                if (i == 0 || path.ways[i] != path.ways[i - 1]) {
                    glass.beginRun(path.ways[i]);
                }
                glass.lengthenRun();
            }
            return glass;
        }

        private void beginRun(int way) {
            if (runs < runWays.length) {
                runWays[runs] = way;
                runs++;
            }
        }

        private void lengthenRun() {
            if (runs > 0) {
                runLengths[runs - 1]++;
            }
        }

        int bendCount() {
            return Math.max(runs - 1, 0);
        }

        /** The heat of the order that was found. */
        int orderHeat() {
            int heat = 0;
            for (int i = 0; i < bendCount(); i++) {
                heat += 10;
                if (i > 0 && Math.abs(order[i] - order[i - 1]) != 1) {
                    heat += 5;
                }
            }
            return heat;
        }
    }

    /** Bends glass on trial, on rows of its own that are used again for each trial. */
    private static final class Bender {
        private static final int DEAD = 1;

        private final Walk shape = new Walk();
        private final int[] lying = new int[MOST_BENDS + 1];
        private final int[] read = new int[MOST_BENDS];
        // By the set of bends made, as bits: DEAD if no order leads on from there.
        private final int[] fates = new int[1 << MOST_BENDS];

        boolean hasOrder(Glass glass) {
            if (glass.search == Glass.UNSOUGHT) {
                Arrays.fill(fates, 0);
                glass.search = leadsOn(this, glass, 0, 0) ? Glass.FOUND : Glass.NONE;
            }
            return glass.search == Glass.FOUND;
        }

        // Tried by rising numbers, so that the first order found is the first of all.
        private static boolean leadsOn(Bender bender, Glass glass, int made, int depth) {
            int bends = glass.bendCount();
            if (depth >= bends || depth >= glass.order.length) {
                return true;
            }
            for (int bend = 0; bend < bends; bend++) {
                int then = made | 1 << bend;
                if (then == made || then >= bender.fates.length || bender.fates[then] == DEAD) {
                    continue;
                }
                glass.order[depth] = bend;
                if (bender.isFree(glass, then) && leadsOn(bender, glass, then, depth + 1)) {
                    return true;
                }
                bender.fates[then] = DEAD;
            }
            return false;
        }

        /** Reads an order told as digits; whether it has each bend once. */
        boolean reads(long digits, int bends) {
            long rest = digits;
            int seen = 0;
            for (int i = bends - 1; i >= 0; i--) {
                int bend = (int) (rest % 10) - 1;
                if (bend < 0 || bend >= bends || (seen >> bend & 1) != 0) {
                    return false;
                }
                seen |= 1 << bend;
                read[i] = bend;
                rest /= 10;
            }
            return rest == 0;
        }

        boolean canMakeRead(Glass glass) {
            int made = 0;
            for (int i = 0; i < glass.bendCount(); i++) {
                made |= 1 << read[i];
                if (!isFree(glass, made)) {
                    return false;
                }
            }
            return true;
        }

        boolean comesToItsPath(Glass glass) {
            lay(glass, (1 << glass.bendCount()) - 1);
            return shape.isSameAs(glass.walk);
        }

        private boolean isFree(Glass glass, int made) {
            lay(glass, made);
            return !shape.meetsItself();
        }

        // Bends are taken back from the last one on: what lies ahead of each is then still as it will be.
        private void lay(Glass glass, int made) {
            for (int run = 0; run < glass.runs; run++) {
                lying[run] = glass.runWays[run];
            }
            for (int bend = glass.bendCount() - 1; bend >= 0; bend--) {
                if ((made >> bend & 1) == 0) {
                    straighten(glass, bend);
                }
            }
            shape.begin(glass.walk.placeAt(0));
            for (int run = 0; run < glass.runs; run++) {
                for (int i = 0; i < glass.runLengths[run]; i++) {
                    shape.goOn(lying[run]);
                }
            }
        }

        private void straighten(Glass glass, int bend) {
            int ahead = glass.runWays[bend];
            int behind = glass.runWays[bend + 1];
            for (int run = bend + 1; run < glass.runs; run++) {
                lying[run] = turnedBack(lying[run], ahead, behind);
            }
        }

        /** A way after the turn that takes the way behind a bend to the one ahead of it. */
        private static int turnedBack(int way, int ahead, int behind) {
            if (way == behind) {
                return ahead;
            }
            if (way == (behind ^ 1)) {
                return ahead ^ 1;
            }
            if (way == ahead) {
                return behind ^ 1;
            }
            return way == (ahead ^ 1) ? behind : way;
        }
    }

    /** What is inside a tube: air, then a gas. */
    private static final class Air {
        static final int NEON = 0;
        static final int ARGON = 1;
        private static final int NO_GAS = -1;

        private final int kind;
        int minutes;
        boolean isBurned;
        int gas = NO_GAS;
        int off;
        int leaked;

        Air(int kind) {
            this.kind = kind;
        }

        boolean isFilled() {
            return gas != NO_GAS;
        }

        /** What is left of the air, by all the minutes of pumping. */
        int rest() {
            int halvings = minutes + minutes / 10;
            return halvings > 30 ? 0 : 100000 >> halvings;
        }

        int take(int newGas, int pressure) {
            gas = newGas;
            off = Math.abs(pressure - RIGHT_PRESSURES[kind]);
            return off;
        }

        boolean shines() {
            return isBurned && isFilled() && off <= 3 && leaked < 40;
        }

        char look() {
            if (isFilled()) {
                if (!shines()) {
                    return 'x';
                }
                return leaked >= 20 ? 'f' : 'l';
            }
            if (isBurned) {
                return 'o';
            }
            return minutes > 0 ? 'p' : 'b';
        }

        void leak(int years, boolean isHard) {
            leaked += years * (rest() / 10 + 1 + (isHard ? 3 : 0));
        }

        void renew() {
            minutes = 0;
            isBurned = false;
            gas = NO_GAS;
            off = 0;
            leaked = 0;
        }
    }

    /** A tube: its glass, what is in it, and where it hangs and is fed. */
    private static final class Tube {
        private static final int COATS = 6;
        // Red, green and blue by gas, neon ahead of argon, and by coat.
        private static final int[] LIGHTS = {
            255, 60, 20, 227, 130, 110, 255, 60, 20, 255, 60, 20, 255, 0, 0, 0, 0, 20,
            60, 100, 255, 230, 230, 230, 60, 255, 90, 255, 120, 170, 60, 0, 0, 0, 0, 255
        };

        final int kind;
        final Glass glass;
        final Air air;
        private final boolean[] isBlack = new boolean[MOST_LETTERS];
        int coat;
        long hours;
        Sign home;
        char letter;
        Transformer power;
        char relay;
        Cam firstCam;
        Cam secondCam;
        int tracedFor;
        int fitted;
        int moveX;
        int moveY;

        Tube(int kind, Glass glass) {
            this.kind = kind;
            this.glass = glass;
            this.air = new Air(kind);
        }

        void blackOut(int from, int to) {
            for (int i = Math.max(from, 0); i < to && i < isBlack.length; i++) {
                isBlack[i] = true;
            }
        }

        boolean isBlackAt(int unit) {
            return unit >= 0 && unit < isBlack.length && isBlack[unit];
        }

        int clearUnits() {
            int count = 0;
            for (int i = 0; i < glass.walk.last; i++) {
                if (!isBlackAt(i)) {
                    count++;
                }
            }
            return count;
        }

        /** A part of the light of a unit that shines. */
        int unitLight(boolean isDay, int part) {
            int index = (air.gas * COATS + coat) * 3 + part;
            if (index < 0 || index >= LIGHTS.length) {
                return 0;
            }
            return isDay ? LIGHTS[index] / 3 : LIGHTS[index];
        }

        int voltage() {
            int alongUnits = UNIT_VOLTS[kind] * glass.walk.last;
            if (air.gas == Air.NEON) {
                alongUnits = alongUnits * 13 / 10;
            }
            return 250 + alongUnits + 5 * air.leaked;
        }

        boolean burnsAt(int second) {
            return power != null && relayIsOn(second) && power.feeds();
        }

        boolean relayIsOn(int second) {
            if (firstCam == null) {
                return false;
            }
            boolean isFirst = firstCam.isOn(second);
            if (relay == 'd' || relay == 'n') {
                return isFirst == (relay == 'd');
            }
            boolean isSecond = secondCam != null && secondCam.isOn(second);
            return relay == 'a' ? isFirst && isSecond : isFirst || isSecond;
        }

        boolean beginsAnewAfter(int seconds) {
            return (firstCam == null || firstCam.beginsAnewAfter(seconds))
                    && (secondCam == null || secondCam.beginsAnewAfter(seconds));
        }

        boolean flickers() {
            return firstCam != null && firstCam.period < 3 || secondCam != null && secondCam.period < 3;
        }

        long ageBy(int burned) {
            if (power == null || !power.feeds()) {
                return hours;
            }
            int lit = 0;
            for (int second = 0; second < WATCHED_SECONDS; second++) {
                if (relayIsOn(second)) {
                    lit++;
                }
            }
            hours += burned * lit / WATCHED_SECONDS;
            return hours;
        }

        /** How much it asks to be made anew; for a tube whose order was found. */
        long care() {
            return hours / 100 + glass.orderHeat() + 20L * air.leaked;
        }

        /** For a tube whose order was found. */
        int bendingHours() {
            return glass.orderHeat() / 20 + 1;
        }
    }

    /** A transformer and its row. */
    private static final class Transformer {
        final List<Tube> row = new ArrayList<Tube>();
        int strength;

        Transformer(int strength) {
            this.strength = strength;
        }

        int voltSum() {
            int sum = 0;
            for (int i = 0; i < row.size(); i++) {
                if (row.get(i).air.isFilled()) {
                    sum += row.get(i).voltage();
                }
            }
            return sum;
        }

        boolean feeds() {
            for (int i = 0; i < row.size(); i++) {
                if (!row.get(i).air.shines()) {
                    return false;
                }
            }
            return !row.isEmpty() && voltSum() <= dryStrength();
        }

        boolean isWithinLoad() {
            return !feeds() || voltSum() <= strength;
        }

        void wear(int years) {
            if (voltSum() * 2L < strength) {
                strength = Math.max(strength - 50 * years, 0);
            }
        }

        private int dryStrength() {
            int left = strength;
            for (int i = 0; i < row.size(); i++) {
                Sign home = row.get(i).home;
                if (home != null && home.isWet) {
                    left -= 100;
                }
            }
            return left;
        }
    }

    /** A cam, as it is meant and as it is stuck. */
    private static final class Cam {
        static final char ON = '1';
        static final char OFF = '0';
        static final char LATE = 'l';
        static final char FREE = '-';

        final int period;
        private final int bits;
        char how = FREE;

        Cam(int period, int bits) {
            this.period = period;
            this.bits = bits;
        }

        boolean isOn(int second) {
            if (how == ON) {
                return true;
            }
            if (how == OFF || period < 1) {
                return false;
            }
            int shown = how == LATE ? second - 1 : second;
            return (bits >> Math.floorMod(shown, period) & 1) == 1;
        }

        boolean beginsAnewAfter(int seconds) {
            return period < 1 || seconds % period == 0;
        }
    }

    /** A sign, the tubes that hang there, and the words that are meant. */
    private static final class Sign {
        private static final int LETTER_BASE = 27;

        final int width;
        final int height;
        final List<Tube> hung = new ArrayList<Tube>();
        boolean isWet;
        int borne;
        // A word is one number to the base 27, its letters 1 to 26, so that no two words are alike.
        private final long[] meant = new long[MOST_WORDS];
        private int lastMeantLetters;
        int words;
        private final boolean[] isFed = new boolean[MOST_TUBES];
        private int watched;

        Sign(int width, int height) {
            this.width = width;
            this.height = height;
        }

        boolean isTouched(Tube tube) {
            for (int i = 0; i < hung.size(); i++) {
                Tube other = hung.get(i);
                if (other != tube && other.glass.walk.touches(tube.glass.walk)) {
                    return true;
                }
            }
            return false;
        }

        boolean isCovered(Tube tube) {
            for (int i = 0; i < hung.size(); i++) {
                Tube other = hung.get(i);
                if (other != tube && tube.glass.walk.liesUnder(other.glass.walk)) {
                    return true;
                }
            }
            return false;
        }

        int litCount(int second) {
            int count = 0;
            for (int i = 0; i < hung.size(); i++) {
                if (hung.get(i).burnsAt(second)) {
                    count++;
                }
            }
            return count;
        }

        /** The tube of a letter of the word, or null. */
        Tube litTube(int second, int index) {
            int ahead = 0;
            for (int i = 0; i < hung.size(); i++) {
                Tube tube = hung.get(i);
                if (tube.burnsAt(second)) {
                    if (ahead == index) {
                        return tube;
                    }
                    ahead++;
                }
            }
            return null;
        }

        boolean takesMeantLetter() {
            return words > 0 && lastMeantLetters < MOST_WORD_LETTERS;
        }

        void addMeant(char letter, boolean isNew) {
            if (isNew && words < meant.length) {
                words++;
                lastMeantLetters = 0;
            }
            if (words > 0) {
                meant[words - 1] = withLetter(meant[words - 1], letter);
                lastMeantLetters++;
            }
        }

        private static long withLetter(long word, char letter) {
            return word * LETTER_BASE + (letter - 'A' + 1);
        }

        /** Finds what stays the same however cams stick: which tubes are fed, and when their cams begin anew. */
        void beginWatch() {
            for (int i = 0; i < hung.size() && i < isFed.length; i++) {
                Transformer power = hung.get(i).power;
                isFed[i] = power != null && power.feeds();
            }
            watched = 1;
            while (watched < WATCHED_SECONDS && !beginsAnewAfter(watched)) {
                watched++;
            }
        }

        private boolean beginsAnewAfter(int seconds) {
            for (int i = 0; i < hung.size() && i < isFed.length; i++) {
                if (isFed[i] && !hung.get(i).beginsAnewAfter(seconds)) {
                    return false;
                }
            }
            return true;
        }

        /** The first second in which what is told is not meant, or -1, as the watch was begun. */
        int firstWrong() {
            for (int second = 0; second < watched; second++) {
                if (!tellsMeant(second)) {
                    return second;
                }
            }
            return -1;
        }

        private boolean tellsMeant(int second) {
            long word = 0;
            int letters = 0;
            for (int i = 0; i < hung.size() && i < isFed.length; i++) {
                if (isFed[i] && hung.get(i).relayIsOn(second)) {
                    word = withLetter(word, hung.get(i).letter);
                    letters++;
                }
            }
            return letters == 0 || letters <= MOST_WORD_LETTERS && isMeant(word);
        }

        private boolean isMeant(long word) {
            for (int i = 0; i < words; i++) {
                if (meant[i] == word) {
                    return true;
                }
            }
            return false;
        }

        int blend(int second, boolean isDay, int part) {
            int sum = 0;
            int shining = 0;
            for (int i = 0; i < hung.size(); i++) {
                Tube tube = hung.get(i);
                if (tube.burnsAt(second)) {
                    sum += tube.clearUnits() * tube.unitLight(isDay, part);
                    shining += tube.clearUnits();
                }
            }
            return shining > 0 ? sum / shining : 0;
        }

        long nightLight() {
            long sum = 0;
            for (int i = 0; i < hung.size(); i++) {
                Tube tube = hung.get(i);
                if (tube.air.shines()) {
                    int each = tube.unitLight(false, 0) + tube.unitLight(false, 1) + tube.unitLight(false, 2);
                    sum += tube.clearUnits() * each;
                }
            }
            return sum;
        }

        boolean hasModernLight() {
            for (int i = 0; i < hung.size(); i++) {
                Tube tube = hung.get(i);
                if (tube.air.gas == Air.ARGON || tube.coat >= 4) {
                    return true;
                }
            }
            return false;
        }

        boolean flickers() {
            for (int i = 0; i < hung.size(); i++) {
                if (hung.get(i).flickers()) {
                    return true;
                }
            }
            return false;
        }

        boolean bears(int wind, int ice) {
            long weight = (long) width * height * wind * wind / 10000 + (width + height) * ice / 10;
            for (int i = 0; i < hung.size(); i++) {
                weight += hung.get(i).glass.walk.last / 10;
            }
            boolean isLong = width > 200 || height > 200;
            return weight <= (isLong ? borne - 1 : borne);
        }

        int hangingHours() {
            int sum = 0;
            for (int i = 0; i < hung.size(); i++) {
                sum += hung.get(i).glass.walk.last;
            }
            return sum / 40 + 2;
        }

        /** For a sign whose tubes all have an order. */
        int bendingHours() {
            int sum = 0;
            for (int i = 0; i < hung.size(); i++) {
                sum += hung.get(i).bendingHours();
            }
            return sum;
        }

        long burnOn(int burned) {
            long sum = 0;
            for (int i = 0; i < hung.size(); i++) {
                sum += hung.get(i).ageBy(burned);
            }
            return sum;
        }

        boolean areWordsSound() {
            for (int second = 0; second < SOUND_SECONDS; second++) {
                int lit = litCount(second);
                boolean hasLast = lit == 0 || litTube(second, lit - 1) != null;
                if (!hasLast || litTube(second, lit) != null) {
                    return false;
                }
            }
            return true;
        }
    }

    /** Marks under paint, and the move by which a tube fits most of them. */
    private static final class Tracer {
        // A path of 60 units covers a box of 31 by 31 places at most.
        private static final int MOST_CELLS = 961;
        private static final int COME_TO = 1;

        private final int[] marksX = new int[MOST_MARKS];
        private final int[] marksY = new int[MOST_MARKS];
        int marks;
        private final int[] cells = new int[MOST_CELLS];
        private int left;
        private int low;
        private int right;
        private int high;

        int addMark(int x, int y) {
            if (marks < marksX.length) {
                marksX[marks] = x;
                marksY[marks] = y;
                marks++;
            }
            return marks;
        }

        /** Leaves the trace in the tube; neither marks nor places ever change, so only new marks ask for it anew. */
        void seek(Tube tube) {
            if (tube.tracedFor == marks) {
                return;
            }
            Walk walk = tube.glass.walk;
            layOut(walk);
            tube.fitted = 0;
            for (int i = 0; i < marks; i++) {
                for (int j = 0; j <= walk.last; j++) {
                    int place = walk.placeAt(j);
                    tryMove(tube, marksX[i] - Walk.xOf(place), marksY[i] - Walk.yOf(place));
                }
            }
            tube.tracedFor = marks;
        }

        private void layOut(Walk walk) {
            Arrays.fill(cells, 0);
            left = Walk.xOf(walk.placeAt(0));
            right = left;
            low = Walk.yOf(walk.placeAt(0));
            high = low;
            for (int i = 1; i <= walk.last; i++) {
                int place = walk.placeAt(i);
                left = Math.min(left, Walk.xOf(place));
                right = Math.max(right, Walk.xOf(place));
                low = Math.min(low, Walk.yOf(place));
                high = Math.max(high, Walk.yOf(place));
            }
            for (int i = 0; i <= walk.last; i++) {
                int cell = cellOf(Walk.xOf(walk.placeAt(i)), Walk.yOf(walk.placeAt(i)));
                if (cell >= 0) {
                    cells[cell] = COME_TO;
                }
            }
        }

        /** -1 outside the box. */
        private int cellOf(int x, int y) {
            if (x < left || x > right || y < low || y > high) {
                return -1;
            }
            int cell = (x - left) * (high - low + 1) + (y - low);
            return cell < MOST_CELLS ? cell : -1;
        }

        private void tryMove(Tube tube, int moveX, int moveY) {
            int count = 0;
            for (int i = 0; i < marks; i++) {
                int cell = cellOf(marksX[i] - moveX, marksY[i] - moveY);
                if (cell >= 0 && cells[cell] == COME_TO) {
                    count++;
                }
            }
            if (count > tube.fitted || count == tube.fitted && comesAhead(moveX, moveY, tube)) {
                tube.fitted = count;
                tube.moveX = moveX;
                tube.moveY = moveY;
            }
        }

        private static boolean comesAhead(int moveX, int moveY, Tube tube) {
            int amount = Math.abs(moveX) + Math.abs(moveY);
            int best = Math.abs(tube.moveX) + Math.abs(tube.moveY);
            if (amount != best) {
                return amount < best;
            }
            return moveX != tube.moveX ? moveX < tube.moveX : moveY < tube.moveY;
        }
    }

    /** The days of the shop: rain, and when each installer is free. */
    private static final class Week {
        static final int LAST_TOLD_DAY = 30;
        private static final int LAST_DAY = 60;
        private static final int INSTALLERS = 3;

        private final boolean[] isRainy = new boolean[LAST_TOLD_DAY + 1];
        private final int[] freeFrom = new int[INSTALLERS];

        boolean setRain(int day, boolean is) {
            boolean before = isRainyOn(day);
            if (day >= 0 && day < isRainy.length) {
                isRainy[day] = is;
            }
            return before;
        }

        void begin() {
            Arrays.fill(freeFrom, 0);
        }

        /** The day on which the installer who is free first hangs a sign, or -1. */
        int hangNext(int ready, int hours) {
            int who = firstFree();
            int earliest = Math.max(ready, freeFrom[who]);
            for (int day = earliest / DAY_HOURS; day <= LAST_DAY; day++) {
                int start = Math.max(earliest, day * DAY_HOURS);
                if (!isRainyOn(day) && start + hours <= (day + 1) * DAY_HOURS) {
                    freeFrom[who] = start + hours;
                    return day;
                }
            }
            return -1;
        }

        private boolean isRainyOn(int day) {
            return day >= 0 && day < isRainy.length && isRainy[day];
        }

        private int firstFree() {
            int who = 0;
            for (int i = 1; i < freeFrom.length; i++) {
                if (freeFrom[i] < freeFrom[who]) {
                    who = i;
                }
            }
            return who;
        }
    }
}
