import java.util.NoSuchElementException;

/** A house of prints from bitten plates; shared/DOC.md tells what each call of it does. */
public final class AquatintHouse {
    private static final int MOST_PLATES = 5;
    private static final int MOST_BATHS = 3;
    private static final int MOST_PULLS = 60;
    private static final int MOST_EDITIONS = 4;
    private static final int MOST_MARKS = 5;
    private static final int MOST_NUMBERS = 20;
    private static final int LEAST_SIDE = 2;
    private static final int MOST_SIDE = 8;
    private static final int MOST_DEPTH = 99;
    private static final int MOST_BURR = 9;
    private static final int MOST_TRACE = 9;
    private static final int MOST_INK = 90;
    private static final int MOST_DARK = 99;
    private static final int CANCELLED_DEPTH = 60;

    private static final int OPEN = 0;
    private static final int HARD_GROUND = 1;
    private static final int SOFT_GROUND = 2;
    private static final int STOP = 3;
    private static final int GRAIN = 4;

    private static final int NO_COLOUR = -1;
    private static final char NOT_ENTERED = ' ';
    private static final char AS_NUMBER = 'e';
    private static final char AS_PROOF = 'a';
    private static final char AS_TRIAL = 't';

    private final Plate[] plateList = new Plate[MOST_PLATES];
    private final Bath[] bathList = new Bath[MOST_BATHS];
    private final Pull[] pullList = new Pull[MOST_PULLS];
    private final Sheet[] sheetList = new Sheet[MOST_PULLS];
    private final Edition[] editionList = new Edition[MOST_EDITIONS];
    private final Chance chance = new Chance();
    private int plateCount;
    private int pullCount;
    private int sheetCount;
    private int editionCount;
    private int pressPressure = 5;

    public AquatintHouse() {
        for (int i = 0; i < bathList.length; i++) {
            bathList[i] = new Bath();
        }
    }

    public int plate(char metal, int columns, int rows)
            throws IllegalArgumentException, IllegalStateException {
        int hardness = hardnessOf(metal);
        if (hardness == 0 || !isWithin(columns, LEAST_SIDE, MOST_SIDE) || !isWithin(rows, LEAST_SIDE, MOST_SIDE)) {
            throw new IllegalArgumentException("no such metal, or a number is out of range");
        }
        if (plateCount >= MOST_PLATES) {
            throw new IllegalStateException("there are 5 plates");
        }
        return addPlate(hardness, columns, rows, false).number;
    }

    public int work(int plate, char tool, int x, int y, int toX, int toY, int pressure)
            throws IndexOutOfBoundsException, IllegalArgumentException, UnsupportedOperationException {
        Plate worked = plateNumbered(plate);
        if (worked == null || !worked.has(x, y) || !worked.has(toX, toY)) {
            throw new IndexOutOfBoundsException("no such plate or cell");
        }
        if (!isTool(tool) || !isWithin(pressure, 1, 9) || !isLine(toX - x, toY - y)) {
            throw new IllegalArgumentException("no such tool or line, or the pressure is out of range");
        }
        if (worked.isShut()) {
            throw new UnsupportedOperationException("the plate has a face, or is cancelled");
        }
        int steps = Math.max(Math.abs(toX - x), Math.abs(toY - y));
        int stepX = stepTowards(x, toX);
        int stepY = stepTowards(y, toY);
        for (int i = 0; i <= steps; i++) {
            worked.use(tool, x + i * stepX, y + i * stepY, pressure);
        }
        return steps + 1;
    }

    public int ground(int plate, boolean isSoft) throws IndexOutOfBoundsException, UnsupportedOperationException {
        Plate grounded = plateNumbered(plate);
        if (grounded == null) {
            throw new IndexOutOfBoundsException("no such plate");
        }
        if (grounded.isShut()) {
            throw new UnsupportedOperationException("the plate has a face, or is cancelled");
        }
        return grounded.coverAll(isSoft ? SOFT_GROUND : HARD_GROUND);
    }

    public int stop(int plate, int x, int y, int toX, int toY)
            throws IndexOutOfBoundsException, UnsupportedOperationException {
        Plate stopped = plateNumbered(plate);
        if (stopped == null || !stopped.has(x, y) || !stopped.has(toX, toY)) {
            throw new IndexOutOfBoundsException("no such plate or cell");
        }
        if (stopped.isShut()) {
            throw new UnsupportedOperationException("the plate has a face, or is cancelled");
        }
        stopped.stopOut(Math.min(x, toX), Math.min(y, toY), Math.max(x, toX), Math.max(y, toY));
        return stopped.countCovered(STOP);
    }

    public int grain(int plate, int size)
            throws IndexOutOfBoundsException, IllegalArgumentException, UnsupportedOperationException {
        Plate grained = plateNumbered(plate);
        if (grained == null) {
            throw new IndexOutOfBoundsException("no such plate");
        }
        if (!isWithin(size, 1, 3)) {
            throw new IllegalArgumentException("the size is out of range");
        }
        if (grained.isShut()) {
            throw new UnsupportedOperationException("the plate has a face, or is cancelled");
        }
        grained.layGrain(size + 1);
        return grained.countCovered(GRAIN);
    }

    public int clean(int plate) throws IndexOutOfBoundsException {
        Plate cleaned = plateNumbered(plate);
        if (cleaned == null) {
            throw new IndexOutOfBoundsException("no such plate");
        }
        int open = cleaned.countCovered(OPEN);
        return cleaned.coverAll(OPEN) - open;
    }

    public int bath(int bath, int strength, int heat) throws IllegalArgumentException {
        Bath made = bathNumbered(bath);
        if (made == null || !isWithin(strength, 1, 9) || !isWithin(heat, 0, 40)) {
            throw new IllegalArgumentException("a number is out of range");
        }
        return made.makeAnew(strength, heat);
    }

    public int bite(int plate, int bath, int minutes)
            throws IndexOutOfBoundsException, IllegalArgumentException, UnsupportedOperationException {
        Plate bitten = plateNumbered(plate);
        if (bitten == null) {
            throw new IndexOutOfBoundsException("no such plate");
        }
        Bath acid = bathNumbered(bath);
        if (acid == null || !isWithin(minutes, 1, 99)) {
            throw new IllegalArgumentException("a number is out of range");
        }
        if (bitten.isShut()) {
            throw new UnsupportedOperationException("the plate has a face, or is cancelled");
        }
        int taken = acid.takes(minutes, bitten.hardness);
        bitten.etch(taken, chance);
        acid.used += bitten.countCovered(OPEN) * minutes;
        return taken;
    }

    public int cell(int plate, int x, int y, char what) throws IndexOutOfBoundsException, IllegalArgumentException {
        Plate asked = plateNumbered(plate);
        if (asked == null || !asked.has(x, y)) {
            throw new IndexOutOfBoundsException("no such plate or cell");
        }
        switch (what) {
            case 'd':
                return asked.depth.at(x, y);
            case 'b':
                return asked.burr.at(x, y);
            case 't':
                return asked.trace.at(x, y);
            case 'i':
                return asked.ink.held.at(x, y);
            case 'c':
                return coverTold(asked.cover.at(x, y));
            default:
                throw new IllegalArgumentException("no such letter");
        }
    }

    public int ink(int plate, int colour, int stiffness, int oil, int warm)
            throws IndexOutOfBoundsException, IllegalArgumentException {
        Plate inked = plateNumbered(plate);
        if (inked == null) {
            throw new IndexOutOfBoundsException("no such plate");
        }
        if (!isWithin(colour, 0, 5) || !isWithin(stiffness, 1, 9) || !isWithin(oil, 0, 9) || !isWithin(warm, 0, 9)) {
            throw new IllegalArgumentException("a number is out of range");
        }
        inked.ink.mix(colour, Math.max(1, stiffness - warm), oil);
        return inked.takeInk();
    }

    public int wipe(int plate, char by)
            throws IndexOutOfBoundsException, IllegalArgumentException, UnsupportedOperationException {
        Plate wiped = plateNumbered(plate);
        if (wiped == null) {
            throw new IndexOutOfBoundsException("no such plate");
        }
        if (by != 'r' && by != 'h' && by != 'p') {
            throw new IllegalArgumentException("no such way");
        }
        if (!wiped.ink.isOn) {
            throw new UnsupportedOperationException("the plate is not inked");
        }
        return wiped.wipeInk(by);
    }

    public int press(int pressure) throws IllegalArgumentException {
        if (!isWithin(pressure, 1, 9)) {
            throw new IllegalArgumentException("the pressure is out of range");
        }
        int before = pressPressure;
        pressPressure = pressure;
        return before;
    }

    public int pull(int plate, int sort, int sizing, int damp) throws IndexOutOfBoundsException,
            IllegalArgumentException, UnsupportedOperationException, IllegalStateException {
        Plate pulled = plateNumbered(plate);
        if (pulled == null) {
            throw new IndexOutOfBoundsException("no such plate");
        }
        if (!isWithin(sort, 0, 9) || !isWithin(sizing, 0, 9) || !isWithin(damp, 0, 9)) {
            throw new IllegalArgumentException("a number is out of range");
        }
        if (!pulled.ink.isOn) {
            throw new UnsupportedOperationException("the plate is not inked");
        }
        if (pullCount >= MOST_PULLS) {
            throw new IllegalStateException("there were 60 pulls");
        }
        return addSheet(new Sheet(addPull(pulled, sizing, damp), sort, sizing));
    }

    public int over(int plate, int sheet, int damp) throws IndexOutOfBoundsException,
            IllegalArgumentException, UnsupportedOperationException, IllegalStateException {
        Plate pulled = plateNumbered(plate);
        Sheet under = sheetNumbered(sheet);
        if (pulled == null || under == null) {
            throw new IndexOutOfBoundsException("no such plate or sheet");
        }
        if (!isWithin(damp, 0, 9)) {
            throw new IllegalArgumentException("the dampness is out of range");
        }
        if (!pulled.ink.isOn || !under.isInRegisterWith(pulled) || under.kind != NOT_ENTERED) {
            throw new UnsupportedOperationException("the plate is not inked, or the sheet cannot be put under it");
        }
        if (pullCount >= MOST_PULLS) {
            throw new IllegalStateException("there were 60 pulls");
        }
        Pull pull = addPull(pulled, under.sizing, damp);
        under.takePull(pull);
        return pull.number;
    }

    public boolean face(int plate, boolean is) throws IndexOutOfBoundsException, UnsupportedOperationException {
        Plate faced = plateNumbered(plate);
        if (faced == null) {
            throw new IndexOutOfBoundsException("no such plate");
        }
        if (faced.isVoid) {
            throw new UnsupportedOperationException("the plate is cancelled");
        }
        boolean had = faced.isFaced;
        if (is) {
            faced.fillShallowCells();
        }
        faced.isFaced = is;
        return had;
    }

    public int pulls(int plate) throws IndexOutOfBoundsException {
        Plate asked = plateNumbered(plate);
        if (asked == null) {
            throw new IndexOutOfBoundsException("no such plate");
        }
        return asked.pullsHad;
    }

    public int state(int plate) throws IndexOutOfBoundsException {
        Plate asked = plateNumbered(plate);
        if (asked == null) {
            throw new IndexOutOfBoundsException("no such plate");
        }
        return asked.nextState();
    }

    public int of(int sheet, char what) throws IndexOutOfBoundsException, IllegalArgumentException {
        Sheet asked = sheetNumbered(sheet);
        if (asked == null) {
            throw new IndexOutOfBoundsException("no such sheet");
        }
        switch (what) {
            case 'p':
                return asked.first.plate.number;
            case 'n':
                return asked.first.number;
            case 's':
                return asked.first.state;
            case 'k':
                return asked.countPlates();
            case 'r':
                return asked.rows;
            case 'o':
                return asked.sort;
            case 'm':
                return asked.markCount;
            case 'l':
                return asked.lit;
            default:
                throw new IllegalArgumentException("no such letter");
        }
    }

    public int dark(int sheet, int x, int y) throws IndexOutOfBoundsException {
        Sheet asked = sheetNumbered(sheet);
        if (asked == null || !asked.has(x, y)) {
            throw new IndexOutOfBoundsException("no such sheet or cell");
        }
        return asked.darkness.at(x, y);
    }

    public int colour(int sheet, int x, int y) throws IndexOutOfBoundsException {
        Sheet asked = sheetNumbered(sheet);
        if (asked == null || !asked.has(x, y)) {
            throw new IndexOutOfBoundsException("no such sheet or cell");
        }
        return asked.hue.at(x, y);
    }

    public int edition(int plate, int size) throws IndexOutOfBoundsException, IllegalArgumentException,
            UnsupportedOperationException, IllegalStateException {
        Plate printed = plateNumbered(plate);
        if (printed == null) {
            throw new IndexOutOfBoundsException("no such plate");
        }
        if (!isWithin(size, 1, MOST_NUMBERS)) {
            throw new IllegalArgumentException("the size is out of range");
        }
        if (printed.isVoid || hasOpenEdition(printed)) {
            throw new UnsupportedOperationException("the plate is cancelled, or has an edition that is not closed");
        }
        if (editionCount >= MOST_EDITIONS) {
            throw new IllegalStateException("there are 4 editions");
        }
        return addEdition(new Edition(printed, size));
    }

    public int enter(int edition, int sheet, char kind) throws IndexOutOfBoundsException, IllegalArgumentException,
            UnsupportedOperationException, IllegalStateException {
        Edition taking = editionNumbered(edition);
        Sheet coming = sheetNumbered(sheet);
        if (taking == null || coming == null) {
            throw new IndexOutOfBoundsException("no such edition or sheet");
        }
        if (!isKind(kind)) {
            throw new IllegalArgumentException("no such kind");
        }
        if (coming.first.plate != taking.plate || coming.pullsOnIt != 1 || coming.kind != NOT_ENTERED
                || !taking.mayTake(coming, kind)) {
            throw new UnsupportedOperationException("the sheet may not come into this edition as this kind");
        }
        if (taking.isClosed || taking.isFullOf(kind)) {
            throw new IllegalStateException("the edition is closed, or full of this kind");
        }
        taking.take(coming, kind);
        return taking.count(kind);
    }

    public int entered(int edition, char kind) throws IndexOutOfBoundsException, IllegalArgumentException {
        Edition asked = editionNumbered(edition);
        if (asked == null) {
            throw new IndexOutOfBoundsException("no such edition");
        }
        if (!isKind(kind)) {
            throw new IllegalArgumentException("no such kind");
        }
        return asked.count(kind);
    }

    public int number(int sheet) throws IndexOutOfBoundsException, NoSuchElementException {
        Sheet asked = sheetNumbered(sheet);
        if (asked == null) {
            throw new IndexOutOfBoundsException("no such sheet");
        }
        if (asked.kind != AS_NUMBER) {
            throw new NoSuchElementException("the sheet is no number of an edition");
        }
        return asked.numberInEdition;
    }

    public int close(int edition) throws IndexOutOfBoundsException, IllegalStateException {
        Edition closing = editionNumbered(edition);
        if (closing == null) {
            throw new IndexOutOfBoundsException("no such edition");
        }
        if (closing.isClosed) {
            throw new IllegalStateException("the edition is closed");
        }
        closing.isClosed = true;
        closing.plate.cancel();
        return closing.numberCount + closing.proofCount + closing.trialCount;
    }

    public boolean isCancelled(int plate) throws IndexOutOfBoundsException {
        Plate asked = plateNumbered(plate);
        if (asked == null) {
            throw new IndexOutOfBoundsException("no such plate");
        }
        return asked.isVoid;
    }

    public boolean isRestrike(int sheet) throws IndexOutOfBoundsException {
        Sheet asked = sheetNumbered(sheet);
        if (asked == null) {
            throw new IndexOutOfBoundsException("no such sheet");
        }
        return asked.first.isFromCancelled;
    }

    public int light(int sheet, int much) throws IndexOutOfBoundsException, IllegalArgumentException {
        Sheet lighted = sheetNumbered(sheet);
        if (lighted == null) {
            throw new IndexOutOfBoundsException("no such sheet");
        }
        if (!isWithin(much, 1, 50)) {
            throw new IllegalArgumentException("the light is out of range");
        }
        lighted.fade(much);
        return lighted.lit;
    }

    public int trim(int sheet, int rows) throws IndexOutOfBoundsException, IllegalArgumentException {
        Sheet trimmed = sheetNumbered(sheet);
        if (trimmed == null) {
            throw new IndexOutOfBoundsException("no such sheet");
        }
        if (!isWithin(rows, 1, trimmed.rows - 1)) {
            throw new IllegalArgumentException("no row would be left, or none is cut off");
        }
        trimmed.rows -= rows;
        return trimmed.rows;
    }

    public int mark(int sheet, int owner)
            throws IndexOutOfBoundsException, IllegalArgumentException, IllegalStateException {
        Sheet marked = sheetNumbered(sheet);
        if (marked == null) {
            throw new IndexOutOfBoundsException("no such sheet");
        }
        if (!isWithin(owner, 1, 99)) {
            throw new IllegalArgumentException("the mark is out of range");
        }
        if (marked.markCount >= MOST_MARKS) {
            throw new IllegalStateException("the sheet has 5 marks");
        }
        marked.addMark(owner);
        return marked.markCount;
    }

    public int markAt(int sheet, int index) throws IndexOutOfBoundsException, NoSuchElementException {
        Sheet asked = sheetNumbered(sheet);
        if (asked == null) {
            throw new IndexOutOfBoundsException("no such sheet");
        }
        if (index < 0 || index >= asked.markCount || index >= asked.marks.length) {
            throw new NoSuchElementException("no such mark");
        }
        return asked.marks[index];
    }

    public int copy(int sheet) throws IndexOutOfBoundsException, UnsupportedOperationException, IllegalStateException {
        Sheet original = sheetNumbered(sheet);
        if (original == null) {
            throw new IndexOutOfBoundsException("no such sheet");
        }
        if (original.isTrimmed()) {
            throw new UnsupportedOperationException("the sheet is trimmed");
        }
        if (plateCount >= MOST_PLATES) {
            throw new IllegalStateException("there are 5 plates");
        }
        Plate made = addPlate(hardnessOf('z'), original.columns, original.rows, true);
        made.depth.takeHalfOf(original.darkness);
        return made.number;
    }

    public boolean isCopy(int plate) throws IndexOutOfBoundsException {
        Plate asked = plateNumbered(plate);
        if (asked == null) {
            throw new IndexOutOfBoundsException("no such plate");
        }
        return asked.isFromSheet;
    }

    public int mayBe(int sheet, int plate) throws IndexOutOfBoundsException {
        Sheet asked = sheetNumbered(sheet);
        Plate catalogued = plateNumbered(plate);
        if (asked == null || catalogued == null) {
            throw new IndexOutOfBoundsException("no such sheet or plate");
        }
        int many = 0;
        for (int i = 0; i < pullCount; i++) {
            Pull pull = pullNumbered(i);
            if (pull != null && pull.plate == catalogued && asked.mayBeOf(pull)) {
                many++;
            }
        }
        return many;
    }

    public int bound(int sheet, int plate, boolean isLast) throws IndexOutOfBoundsException, NoSuchElementException {
        Sheet asked = sheetNumbered(sheet);
        Plate catalogued = plateNumbered(plate);
        if (asked == null || catalogued == null) {
            throw new IndexOutOfBoundsException("no such sheet or plate");
        }
        Pull pull = isLast ? lastPullFor(asked, catalogued) : firstPullFor(asked, catalogued);
        if (pull == null) {
            throw new NoSuchElementException("there is no such pull");
        }
        return pull.number;
    }

    public int surely(int sheet, int plate) throws IndexOutOfBoundsException, NoSuchElementException {
        Sheet asked = sheetNumbered(sheet);
        Plate catalogued = plateNumbered(plate);
        if (asked == null || catalogued == null) {
            throw new IndexOutOfBoundsException("no such sheet or plate");
        }
        // States never fall over the pulls of a plate: if the first and the last are alike, so are all between.
        Pull first = firstPullFor(asked, catalogued);
        Pull last = lastPullFor(asked, catalogued);
        if (first == null || last == null || first.state != last.state) {
            throw new NoSuchElementException("there is no such pull, or they are of several states");
        }
        return first.state;
    }

    public boolean isSurely(int sheet, int plate) throws IndexOutOfBoundsException {
        Sheet asked = sheetNumbered(sheet);
        Plate catalogued = plateNumbered(plate);
        if (asked == null || catalogued == null) {
            throw new IndexOutOfBoundsException("no such sheet or plate");
        }
        for (int i = 0; i < plateCount; i++) {
            Plate other = plateNumbered(i);
            if (other != null && other != catalogued && firstPullFor(asked, other) != null) {
                return false;
            }
        }
        return firstPullFor(asked, catalogued) != null;
    }

    public int price(int sheet) throws IndexOutOfBoundsException {
        Sheet asked = sheetNumbered(sheet);
        if (asked == null) {
            throw new IndexOutOfBoundsException("no such sheet");
        }
        int sum = 10 * priceFactor(asked.kind);
        if (asked.first.isFromCancelled || asked.first.plate.isFromSheet) {
            sum = sum / 4;
        }
        sum += 2 * asked.markCount;
        sum -= asked.lit / 10;
        return Math.max(0, sum);
    }

    public int seed(int z) throws IllegalArgumentException {
        if (!isWithin(z, 1, Chance.MODULUS - 1)) {
            throw new IllegalArgumentException("z is out of range");
        }
        int before = chance.z;
        chance.z = z;
        return before;
    }

    public float enteredShare() throws ArithmeticException {
        if (sheetCount == 0) {
            throw new ArithmeticException("there are no sheets");
        }
        int in = 0;
        for (int i = 0; i < sheetCount; i++) {
            Sheet sheet = sheetNumbered(i);
            if (sheet != null && sheet.kind != NOT_ENTERED) {
                in++;
            }
        }
        return (float) in / (float) sheetCount;
    }

    public double meanDepth(int plate) throws IndexOutOfBoundsException {
        Plate asked = plateNumbered(plate);
        if (asked == null) {
            throw new IndexOutOfBoundsException("no such plate");
        }
        int cells = asked.columns * asked.rows;
        return cells > 0 ? (double) asked.depth.sum() / (double) cells : 0.0;
    }

    public long checksum(int plate) throws IndexOutOfBoundsException {
        Plate asked = plateNumbered(plate);
        if (asked == null) {
            throw new IndexOutOfBoundsException("no such plate");
        }
        long sum = 7;
        for (int y = 0; y < asked.rows; y++) {
            for (int x = 0; x < asked.columns; x++) {
                int told = asked.depth.at(x, y) + 100 * asked.burr.at(x, y) + 1000 * asked.trace.at(x, y);
                sum = 31 * sum + told;
            }
        }
        return sum;
    }

    public boolean isTrue() {
        return areSheetsOfTheirPulls() && areNumbersInOrder() && areStatesRising() && arePlatesWithinBounds();
    }

    private boolean areSheetsOfTheirPulls() {
        for (int i = 0; i < sheetCount; i++) {
            Sheet sheet = sheetNumbered(i);
            if (sheet != null && sheet.countPlates() == 1 && !sheet.mayBeOf(sheet.first)) {
                return false;
            }
        }
        return true;
    }

    private boolean areNumbersInOrder() {
        for (int i = 0; i < editionCount; i++) {
            Edition edition = editionNumbered(i);
            if (edition != null && !edition.isInOrder()) {
                return false;
            }
        }
        return true;
    }

    private boolean areStatesRising() {
        for (int i = 0; i < plateCount; i++) {
            Plate plate = plateNumbered(i);
            int state = 1;
            for (int j = 0; j < pullCount; j++) {
                Pull pull = pullNumbered(j);
                if (pull != null && pull.plate == plate) {
                    if (pull.state < state) {
                        return false;
                    }
                    state = pull.state;
                }
            }
        }
        return true;
    }

    private boolean arePlatesWithinBounds() {
        for (int i = 0; i < plateCount; i++) {
            Plate plate = plateNumbered(i);
            if (plate != null && !(plate.depth.isUpTo(MOST_DEPTH) && plate.burr.isUpTo(MOST_BURR)
                    && plate.trace.isUpTo(MOST_TRACE))) {
                return false;
            }
        }
        return true;
    }

    private Plate plateNumbered(int n) {
        return n >= 0 && n < plateCount && n < plateList.length ? plateList[n] : null;
    }

    private Bath bathNumbered(int n) {
        return n >= 0 && n < bathList.length ? bathList[n] : null;
    }

    private Pull pullNumbered(int n) {
        return n >= 0 && n < pullCount && n < pullList.length ? pullList[n] : null;
    }

    private Sheet sheetNumbered(int n) {
        return n >= 0 && n < sheetCount && n < sheetList.length ? sheetList[n] : null;
    }

    private Edition editionNumbered(int n) {
        return n >= 0 && n < editionCount && n < editionList.length ? editionList[n] : null;
    }

    private Plate addPlate(int hardness, int columns, int rows, boolean isFromSheet) {
        Plate made = new Plate(plateCount, hardness, columns, rows, isFromSheet);
        if (plateCount >= 0 && plateCount < plateList.length) {
            plateList[plateCount] = made;
            plateCount++;
        }
        return made;
    }

    private Pull addPull(Plate plate, int sizing, int damp) {
        Pull made = new Pull(pullCount, plate, plate.putOnPaper(pressPressure, sizing, damp));
        if (pullCount >= 0 && pullCount < pullList.length) {
            pullList[pullCount] = made;
            pullCount++;
        }
        plate.countPull();
        plate.wear();
        return made;
    }

    private int addSheet(Sheet made) {
        int number = sheetCount;
        if (number >= 0 && number < sheetList.length) {
            sheetList[number] = made;
            sheetCount++;
        }
        return number;
    }

    private int addEdition(Edition made) {
        int number = editionCount;
        if (number >= 0 && number < editionList.length) {
            editionList[number] = made;
            editionCount++;
        }
        return number;
    }

    private boolean hasOpenEdition(Plate plate) {
        for (int i = 0; i < editionCount; i++) {
            Edition edition = editionNumbered(i);
            if (edition != null && edition.plate == plate && !edition.isClosed) {
                return true;
            }
        }
        return false;
    }

    private Pull firstPullFor(Sheet sheet, Plate plate) {
        for (int i = 0; i < pullCount; i++) {
            Pull pull = pullNumbered(i);
            if (pull != null && pull.plate == plate && sheet.mayBeOf(pull)) {
                return pull;
            }
        }
        return null;
    }

    private Pull lastPullFor(Sheet sheet, Plate plate) {
        for (int i = pullCount - 1; i >= 0; i--) {
            Pull pull = pullNumbered(i);
            if (pull != null && pull.plate == plate && sheet.mayBeOf(pull)) {
                return pull;
            }
        }
        return null;
    }

    private static int hardnessOf(char metal) {
        switch (metal) {
            case 'z':
                return 2;
            case 'c':
                return 3;
            case 's':
                return 5;
            default:
                return 0;
        }
    }

    private static boolean isTool(char tool) {
        return tool == 'n' || tool == 'b' || tool == 'o' || tool == 's' || tool == 'u';
    }

    private static boolean isKind(char kind) {
        return kind == AS_NUMBER || kind == AS_PROOF || kind == AS_TRIAL;
    }

    private static boolean isLine(int columns, int rows) {
        return columns == 0 || rows == 0 || Math.abs(columns) == Math.abs(rows);
    }

    private static int stepTowards(int from, int to) {
        if (from == to) {
            return 0;
        }
        return from < to ? 1 : -1;
    }

    private static boolean isWithin(int number, int least, int most) {
        return number >= least && number <= most;
    }

    private static int quotient(int number, int divisor) {
        return divisor > 0 ? number / divisor : 0;
    }

    private static int coverTold(int cover) {
        switch (cover) {
            case HARD_GROUND:
            case SOFT_GROUND:
                return 1;
            case STOP:
                return 2;
            case GRAIN:
                return 3;
            default:
                return 0;
        }
    }

    private static int priceFactor(char kind) {
        switch (kind) {
            case AS_NUMBER:
                return 2;
            case AS_PROOF:
                return 3;
            case AS_TRIAL:
                return 4;
            default:
                return 1;
        }
    }

    /** A number for each cell that a plate can have; the number is 0 where there can be none. */
    private static final class Grid {
        private final int[] numbers = new int[MOST_SIDE * MOST_SIDE];

        private static int place(int x, int y) {
            boolean isInside = x >= 0 && x < MOST_SIDE && y >= 0 && y < MOST_SIDE;
            return isInside ? y * MOST_SIDE + x : -1;
        }

        private int at(int x, int y) {
            int i = place(x, y);
            return i >= 0 && i < numbers.length ? numbers[i] : 0;
        }

        private void put(int x, int y, int number) {
            int i = place(x, y);
            if (i >= 0 && i < numbers.length) {
                numbers[i] = number;
            }
        }

        private void putAll(int number) {
            for (int i = 0; i < numbers.length; i++) {
                numbers[i] = number;
            }
        }

        private void takeHalfOf(Grid other) {
            for (int i = 0; i < numbers.length && i < other.numbers.length; i++) {
                numbers[i] = other.numbers[i] / 2;
            }
        }

        private void lessenAbove0() {
            for (int i = 0; i < numbers.length; i++) {
                if (numbers[i] > 0) {
                    numbers[i]--;
                }
            }
        }

        private int sum() {
            int sum = 0;
            for (int i = 0; i < numbers.length; i++) {
                sum += numbers[i];
            }
            return sum;
        }

        private boolean isUpTo(int most) {
            for (int i = 0; i < numbers.length; i++) {
                if (!isWithin(numbers[i], 0, most)) {
                    return false;
                }
            }
            return true;
        }

        private int mostBeside(int x, int y) {
            return Math.max(Math.max(at(x - 1, y), at(x + 1, y)), Math.max(at(x, y - 1), at(x, y + 1)));
        }
    }

    /** What comes through hard ground. */
    private static final class Chance {
        private static final int MODULUS = 2147483647;

        private int z = 1;

        private boolean comes() {
            z = (int) ((long) z * 48271L % (long) MODULUS);
            return z % 32 == 0;
        }
    }

    /** A bath of acid that weakens by its use. */
    private static final class Bath {
        private int strength = 5;
        private int heat = 20;
        private int used;

        private int makeAnew(int newStrength, int newHeat) {
            int before = used;
            strength = newStrength;
            heat = newHeat;
            used = 0;
            return before;
        }

        private int takes(int minutes, int hardness) {
            int left = Math.max(1, strength - used / 100);
            return quotient(minutes * left * (heat + 10), 100 * hardness);
        }
    }

    /** The ink that lies on a plate. */
    private static final class Ink {
        private final Grid held = new Grid();
        private boolean isOn;
        private int colour;
        private int stiffness = 1;
        private int oil;
        private int tone;

        private void mix(int newColour, int newStiffness, int newOil) {
            isOn = true;
            colour = newColour;
            stiffness = newStiffness;
            oil = newOil;
            tone = 20;
        }

        private void useUp() {
            isOn = false;
            held.putAll(0);
        }
    }

    /** A plate with what was done to it. */
    private static final class Plate {
        private final int number;
        private final int hardness;
        private final int columns;
        private final int rows;
        private final boolean isFromSheet;
        private final Grid depth = new Grid();
        private final Grid burr = new Grid();
        private final Grid trace = new Grid();
        private final Grid cover = new Grid();
        private final Ink ink = new Ink();
        private boolean isFaced;
        private boolean isVoid;
        private boolean isChanged;
        private int pullsHad;
        private int lastState = 1;

        private Plate(int number, int hardness, int columns, int rows, boolean isFromSheet) {
            this.number = number;
            this.hardness = hardness;
            this.columns = columns;
            this.rows = rows;
            this.isFromSheet = isFromSheet;
        }

        private boolean has(int x, int y) {
            return isWithin(x, 0, columns - 1) && isWithin(y, 0, rows - 1);
        }

        private boolean isShut() {
            return isFaced || isVoid;
        }

        /** All that makes a new state goes through here; wear does not. */
        private void change(Grid grid, int x, int y, int number) {
            if (grid.at(x, y) != number) {
                grid.put(x, y, number);
                isChanged = true;
            }
        }

        private void deepen(int x, int y, int more) {
            change(depth, x, y, Math.max(0, Math.min(MOST_DEPTH, depth.at(x, y) + more)));
        }

        private void use(char tool, int x, int y, int pressure) {
            switch (tool) {
                case 'n':
                    needle(x, y, pressure);
                    break;
                case 'b':
                    bare(x, y);
                    deepen(x, y, quotient(2 * pressure, hardness) + 1);
                    break;
                case 'o':
                    bare(x, y);
                    deepen(x, y, 1);
                    change(burr, x, y, Math.max(5, burr.at(x, y)));
                    break;
                case 's':
                    scrape(x, y, pressure);
                    break;
                default:
                    deepen(x, y, -(pressure / 2));
                    change(burr, x, y, burr.at(x, y) / 2);
                    break;
            }
        }

        private void needle(int x, int y, int pressure) {
            if (isUnderGroundOrStop(x, y)) {
                bare(x, y);
            } else {
                deepen(x, y, quotient(pressure, hardness));
                change(burr, x, y, Math.max(pressure, burr.at(x, y)));
            }
        }

        private void scrape(int x, int y, int pressure) {
            if (depth.at(x, y) > 0) {
                change(trace, x, y, Math.min(MOST_TRACE, trace.at(x, y) + 1));
            }
            deepen(x, y, -pressure);
            change(burr, x, y, 0);
        }

        private boolean isUnderGroundOrStop(int x, int y) {
            int over = cover.at(x, y);
            return over == HARD_GROUND || over == SOFT_GROUND || over == STOP;
        }

        /** Takes ground and stop away; grain stays. */
        private void bare(int x, int y) {
            if (isUnderGroundOrStop(x, y)) {
                cover.put(x, y, OPEN);
            }
        }

        private int coverAll(int with) {
            cover.putAll(with);
            return columns * rows;
        }

        private void stopOut(int fromX, int fromY, int toX, int toY) {
            for (int y = fromY; y <= toY; y++) {
                for (int x = fromX; x <= toX; x++) {
                    cover.put(x, y, STOP);
                }
            }
        }

        private void layGrain(int divisor) {
            for (int y = 0; y < rows; y++) {
                for (int x = 0; x < columns; x++) {
                    if (!isUnderGroundOrStop(x, y)) {
                        boolean isProtected = divisor > 0 && (x + 2 * y) % divisor == 0;
                        cover.put(x, y, isProtected ? GRAIN : OPEN);
                    }
                }
            }
        }

        private int countCovered(int with) {
            int many = 0;
            for (int y = 0; y < rows; y++) {
                for (int x = 0; x < columns; x++) {
                    if (cover.at(x, y) == with) {
                        many++;
                    }
                }
            }
            return many;
        }

        private void etch(int taken, Chance chance) {
            for (int y = 0; y < rows; y++) {
                for (int x = 0; x < columns; x++) {
                    deepen(x, y, comesThrough(cover.at(x, y), taken, chance));
                }
            }
            if (taken >= 10) {
                undercut();
            }
        }

        private static int comesThrough(int over, int taken, Chance chance) {
            switch (over) {
                case OPEN:
                    return taken;
                case SOFT_GROUND:
                    return taken / 2;
                case GRAIN:
                    return taken / 3;
                case HARD_GROUND:
                    return chance.comes() ? 1 : 0;
                default:
                    return 0;
            }
        }

        private void undercut() {
            for (int y = 0; y < rows; y++) {
                for (int x = 0; x < columns; x++) {
                    if (isUnderGroundOrStop(x, y) && isBesideOpen(x, y)) {
                        deepen(x, y, 1);
                    }
                }
            }
        }

        private boolean isBesideOpen(int x, int y) {
            return isOpen(x, y - 1) || isOpen(x, y + 1) || isOpen(x - 1, y) || isOpen(x + 1, y);
        }

        private boolean isOpen(int x, int y) {
            return has(x, y) && cover.at(x, y) == OPEN;
        }

        private int takeInk() {
            for (int y = 0; y < rows; y++) {
                for (int x = 0; x < columns; x++) {
                    ink.held.put(x, y, Math.min(MOST_INK, depth.at(x, y) + 2 * burr.at(x, y)));
                }
            }
            return ink.held.sum();
        }

        private int wipeInk(char by) {
            if (by == 'r') {
                ink.tone = 6;
                for (int y = 0; y < rows; y++) {
                    for (int x = 0; x < columns; x++) {
                        ink.held.put(x, y, Math.min(5 * ink.stiffness, ink.held.at(x, y)));
                    }
                }
            } else {
                ink.tone = by == 'h' ? 2 : 0;
            }
            return ink.held.sum();
        }

        private Grid putOnPaper(int pressure, int sizing, int damp) {
            Grid put = new Grid();
            for (int y = 0; y < rows; y++) {
                for (int x = 0; x < columns; x++) {
                    int pressed = ink.held.at(x, y) * pressure * (damp + 1) / 40;
                    put.put(x, y, Math.min(MOST_DARK, pressed + ink.tone));
                }
            }
            if (ink.oil - sizing >= 3) {
                put = bled(put);
            }
            if (pressure >= 8 && damp == 0) {
                slip(put);
            }
            return put;
        }

        private Grid bled(Grid put) {
            Grid spread = new Grid();
            for (int y = 0; y < rows; y++) {
                for (int x = 0; x < columns; x++) {
                    spread.put(x, y, Math.max(put.at(x, y), put.mostBeside(x, y) / 3));
                }
            }
            return spread;
        }

        /** From the last row up, so that each row takes what the row before it had at first. */
        private void slip(Grid put) {
            for (int y = rows - 1; y >= 1; y--) {
                for (int x = 0; x < columns; x++) {
                    put.put(x, y, put.at(x, y - 1));
                }
            }
        }

        private int nextState() {
            return isChanged && pullsHad > 0 ? lastState + 1 : lastState;
        }

        private void countPull() {
            lastState = nextState();
            isChanged = false;
            pullsHad++;
            ink.useUp();
        }

        private void wear() {
            if (isFaced) {
                return;
            }
            burr.lessenAbove0();
            int often = 4 * hardness;
            if (often > 0 && pullsHad % often == 0) {
                depth.lessenAbove0();
            }
        }

        private void fillShallowCells() {
            for (int y = 0; y < rows; y++) {
                for (int x = 0; x < columns; x++) {
                    if (depth.at(x, y) == 1) {
                        change(depth, x, y, 0);
                    }
                }
            }
        }

        private void cancel() {
            isVoid = true;
            for (int i = 0; i < columns && i < rows; i++) {
                change(depth, i, i, CANCELLED_DEPTH);
            }
        }
    }

    /** What the catalogue keeps of a pull. */
    private static final class Pull {
        private final int number;
        private final Plate plate;
        private final int state;
        private final int colour;
        private final boolean isFromCancelled;
        private final Grid put;

        /** Made before the plate counts the pull and wears. */
        private Pull(int number, Plate plate, Grid put) {
            this.number = number;
            this.plate = plate;
            this.state = plate.nextState();
            this.colour = plate.ink.colour;
            this.isFromCancelled = plate.isVoid;
            this.put = put;
        }
    }

    /** A sheet of paper with what came on it, through its life. */
    private static final class Sheet {
        private final Pull first;
        private final int columns;
        private final int sort;
        private final int sizing;
        private final Grid darkness = new Grid();
        private final Grid hue = new Grid();
        private final int[] marks = new int[MOST_MARKS];
        private int rows;
        private int markCount;
        private int lit;
        private int pullsOnIt;
        private int plateBits;
        private char kind = NOT_ENTERED;
        private int numberInEdition;

        private Sheet(Pull first, int sort, int sizing) {
            this.first = first;
            this.columns = first.plate.columns;
            this.rows = first.plate.rows;
            this.sort = sort;
            this.sizing = sizing;
            hue.putAll(NO_COLOUR);
            takePull(first);
        }

        private boolean has(int x, int y) {
            return isWithin(x, 0, columns - 1) && isWithin(y, 0, rows - 1);
        }

        private boolean isTrimmed() {
            return rows < first.plate.rows;
        }

        private boolean isInRegisterWith(Plate plate) {
            return columns == plate.columns && rows == plate.rows && !isTrimmed();
        }

        private int countPlates() {
            return Integer.bitCount(plateBits);
        }

        private void takePull(Pull pull) {
            pullsOnIt++;
            plateBits |= 1 << pull.plate.number;
            for (int y = 0; y < rows; y++) {
                for (int x = 0; x < columns; x++) {
                    if (pull.put.at(x, y) > darkness.at(x, y)) {
                        darkness.put(x, y, pull.put.at(x, y));
                        hue.put(x, y, pull.colour);
                    }
                }
            }
        }

        private void fade(int much) {
            lit += much;
            for (int y = 0; y < rows; y++) {
                for (int x = 0; x < columns; x++) {
                    int colour = hue.at(x, y);
                    int less = colour == 0 || colour == 1 ? much / 2 : much;
                    darkness.put(x, y, Math.max(0, darkness.at(x, y) - less));
                }
            }
        }

        private void addMark(int owner) {
            if (markCount >= 0 && markCount < marks.length) {
                marks[markCount] = owner;
                markCount++;
            }
        }

        private boolean mayBeOf(Pull pull) {
            if (pull.plate.columns != columns || pull.plate.rows < rows) {
                return false;
            }
            for (int y = 0; y < rows; y++) {
                for (int x = 0; x < columns; x++) {
                    int put = pull.put.at(x, y);
                    int dark = darkness.at(x, y);
                    if (dark < put - lit || pullsOnIt == 1 && dark > put) {
                        return false;
                    }
                }
            }
            return true;
        }
    }

    /** An edition of a plate, with the sheets that are its numbers. */
    private static final class Edition {
        private final Plate plate;
        private final int size;
        private final Sheet[] numbers = new Sheet[MOST_NUMBERS];
        private int numberCount;
        private int proofCount;
        private int trialCount;
        private int stateOfNumbers;
        private boolean isClosed;

        private Edition(Plate plate, int size) {
            this.plate = plate;
            this.size = size;
        }

        private boolean mayTake(Sheet sheet, char kind) {
            if (kind == AS_PROOF || numberCount == 0) {
                return true;
            }
            int state = sheet.first.state;
            return kind == AS_NUMBER ? state == stateOfNumbers : state < stateOfNumbers;
        }

        private boolean isFullOf(char kind) {
            switch (kind) {
                case AS_NUMBER:
                    return numberCount >= size;
                case AS_PROOF:
                    return proofCount >= size / 10 + 1;
                default:
                    return false;
            }
        }

        private int count(char kind) {
            switch (kind) {
                case AS_NUMBER:
                    return numberCount;
                case AS_PROOF:
                    return proofCount;
                default:
                    return trialCount;
            }
        }

        private void take(Sheet sheet, char kind) {
            sheet.kind = kind;
            switch (kind) {
                case AS_NUMBER:
                    takeNumber(sheet);
                    break;
                case AS_PROOF:
                    proofCount++;
                    break;
                default:
                    trialCount++;
                    break;
            }
        }

        private void takeNumber(Sheet sheet) {
            stateOfNumbers = sheet.first.state;
            if (numberCount >= 0 && numberCount < numbers.length) {
                numbers[numberCount] = sheet;
                numberCount++;
            }
            sheet.numberInEdition = numberCount;
        }

        private boolean isInOrder() {
            for (int i = 0; i < numberCount && i < numbers.length; i++) {
                Sheet sheet = numbers[i];
                if (sheet == null || sheet.numberInEdition != i + 1 || sheet.first.state != stateOfNumbers) {
                    return false;
                }
            }
            return true;
        }
    }
}
