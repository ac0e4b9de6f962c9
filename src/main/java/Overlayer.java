import java.util.Arrays;
import java.util.NoSuchElementException;

/**
 * A house of maps: layers of areas on squares, edited in sessions under rules, with a history,
 * versions, overlays, coarser maps and names. README.md says how to use it.
 */
public final class Overlayer {
    private static final int NONE = -1;
    private static final int WIDTH = 16;
    private static final int SQUARES = 256;
    private static final int LAYERS = 3;
    private static final int AREAS = 10;
    private static final int AUTHORS = 6;
    private static final int MOST_SESSIONS = 40;
    private static final int MOST_RULES = 6;
    private static final int MOST_VERSIONS = 3;
    private static final int MOST_VALUE = 9999;
    private static final int MOST_LENGTH = 6;
    private static final int MOST_STEPS = 30;
    /** More than any number of steps on the squares, and than any place of a name can be bad. */
    private static final int FAR = 1000;

    /** Right and down come first: with these two alone each pair of neighbours is met once. */
    private static final int RIGHT = 0;
    private static final int DOWN = 1;
    private static final int PAIR_SIDES = 2;
    private static final int LEFT = 2;
    private static final int UP = 3;
    private static final int SIDES = 4;

    private final Layer[] layers = new Layer[LAYERS];
    private final Rule[] rules = new Rule[MOST_RULES];
    private final Version[] versions = new Version[MOST_VERSIONS];
    /** The author of the session that led to each time; the time 0 has none. */
    private final int[] authors = new int[MOST_SESSIONS + 1];
    private int ruleCount;
    private int versionCount;
    private int now;
    private boolean inSession;
    private int sessionAuthor;

    /** Held and used again, since all calls of a run share one room. */
    private final Overlay overlay = new Overlay();
    private final StepMap stepMap = new StepMap();
    private final CoarseMap coarseMap = new CoarseMap();
    private final NamePlan namePlan = new NamePlan();

    public Overlayer() {
        for (int layer = 0; layer < LAYERS; layer++) {
            layers[layer] = new Layer();
        }
    }

    // ---- sessions and edits

    public int begin(int author) throws IllegalArgumentException, IllegalStateException {
        if (author < 0 || author >= AUTHORS) {
            throw new IllegalArgumentException("no such author");
        }
        if (inSession || now >= MOST_SESSIONS) {
            throw new IllegalStateException("a session is there, or all were kept");
        }
        inSession = true;
        sessionAuthor = author;
        for (int rule = 0; rule < ruleCount; rule++) {
            ruleOf(rule).signed = false;
        }
        for (int layer = 0; layer < LAYERS; layer++) {
            layerOf(layer).rememberWorths();
        }
        return now;
    }

    public int paint(int layer, int area, int x, int y, int dx, int dy)
            throws IndexOutOfBoundsException, IllegalArgumentException, IllegalStateException {
        Layer found = layerOf(layer);
        needAreaOrNone(area);
        needBox(x, y, dx, dy);
        needSession();
        found.openEdit();
        for (int row = y; row < y + dy; row++) {
            for (int column = x; column < x + dx; column++) {
                found.give(WIDTH * row + column, area);
            }
        }
        return found.closeEdit(area);
    }

    public int split(int layer, int area, int other, char axis, int at)
            throws IndexOutOfBoundsException, IllegalArgumentException, IllegalStateException,
            UnsupportedOperationException {
        Layer found = layerOf(layer);
        needTwoAreas(area, other);
        if (axis != 'x' && axis != 'y' || at < 0 || at >= WIDTH) {
            throw new IllegalArgumentException("no such line");
        }
        needSession();
        if (found.sizes[other] != 0) {
            throw new UnsupportedOperationException("the other area has squares");
        }
        found.openEdit();
        for (int square = 0; square < SQUARES; square++) {
            int along = axis == 'x' ? square % WIDTH : square / WIDTH;
            if (along >= at && found.squares[square] == area) {
                found.give(square, other);
            }
        }
        return found.closeEdit(other);
    }

    public int merge(int layer, int area, int into)
            throws IndexOutOfBoundsException, IllegalArgumentException, IllegalStateException {
        Layer found = layerOf(layer);
        needTwoAreas(area, into);
        needSession();
        found.openEdit();
        for (int square = 0; square < SQUARES; square++) {
            if (found.squares[square] == area) {
                found.give(square, into);
            }
        }
        return found.closeEdit(into);
    }

    public int setValue(int layer, int area, int value)
            throws IndexOutOfBoundsException, IllegalArgumentException, IllegalStateException,
            UnsupportedOperationException {
        Layer found = layerOf(layer);
        needArea(area);
        if (value < 0 || value > MOST_VALUE) {
            throw new IllegalArgumentException("the value is out of range");
        }
        needSession();
        if (found.sizes[area] == 0) {
            throw new UnsupportedOperationException("the area has no squares");
        }
        int before = found.worths[area];
        found.worths[area] = value;
        return before;
    }

    public boolean setDivides(int layer, boolean divides) throws IndexOutOfBoundsException {
        Layer found = layerOf(layer);
        boolean before = found.dividing;
        found.dividing = divides;
        return before;
    }

    public int sign(int rule) throws NoSuchElementException, IllegalStateException {
        Rule found = ruleOf(rule);
        needSession();
        found.signed = true;
        int signed = 0;
        for (int number = 0; number < ruleCount; number++) {
            if (ruleOf(number).signed) {
                signed++;
            }
        }
        return signed;
    }

    public int keep() throws IllegalStateException, UnsupportedOperationException {
        needSession();
        for (int number = 0; number < ruleCount; number++) {
            Rule rule = ruleOf(number);
            if (!rule.signed && rule.breaks() > 0) {
                throw new UnsupportedOperationException("a rule is broken that is not signed");
            }
        }
        if (now < MOST_SESSIONS) {
            now++;
            authors[now] = sessionAuthor;
            for (int layer = 0; layer < LAYERS; layer++) {
                layerOf(layer).store(now);
            }
        }
        inSession = false;
        return now;
    }

    public int drop() throws IllegalStateException {
        needSession();
        int changed = 0;
        for (int layer = 0; layer < LAYERS; layer++) {
            changed += layerOf(layer).goBack(now);
        }
        inSession = false;
        return changed;
    }

    // ---- rules

    public int addRule(char kind, int first, int second)
            throws IllegalArgumentException, IndexOutOfBoundsException, IllegalStateException {
        if (kind != 'i' && kind != 'n' && kind != 'a') {
            throw new IllegalArgumentException("no such kind");
        }
        needTwoLayers(first, second);
        if (inSession || ruleCount >= MOST_RULES) {
            throw new IllegalStateException("a session is there, or all rules are");
        }
        rules[ruleCount] = new Rule(kind, layerOf(first), layerOf(second));
        ruleCount++;
        return ruleCount - 1;
    }

    public int broken(int rule) throws NoSuchElementException {
        return ruleOf(rule).breaks();
    }

    public int leastBroken() throws NoSuchElementException {
        int best = NONE;
        int fewest = 0;
        for (int rule = 0; rule < ruleCount; rule++) {
            int breaks = ruleOf(rule).breaks();
            if (breaks > 0 && (best == NONE || breaks < fewest)) {
                best = rule;
                fewest = breaks;
            }
        }
        if (best == NONE) {
            throw new NoSuchElementException("no rule is broken");
        }
        return best;
    }

    // ---- squares, areas and history

    public int areaAt(int layer, int square) throws IndexOutOfBoundsException {
        Layer found = layerOf(layer);
        needSquare(square);
        return found.squares[square];
    }

    public int areaThen(int layer, int square, int time)
            throws IndexOutOfBoundsException, IllegalArgumentException {
        Layer found = layerOf(layer);
        needSquare(square);
        needTime(time);
        return found.areaBy(time, square);
    }

    public int authorOf(int layer, int square, int time)
            throws IndexOutOfBoundsException, IllegalArgumentException, NoSuchElementException {
        Layer found = layerOf(layer);
        needSquare(square);
        needTime(time);
        for (int then = time; then > 0; then--) {
            if (found.areaBy(then, square) != found.areaBy(then - 1, square)) {
                return authors[then];
            }
        }
        throw new NoSuchElementException("no session changed the square");
    }

    public int size(int layer, int area)
            throws IndexOutOfBoundsException, IllegalArgumentException {
        Layer found = layerOf(layer);
        needArea(area);
        return found.sizes[area];
    }

    public int value(int layer, int area)
            throws IndexOutOfBoundsException, IllegalArgumentException {
        Layer found = layerOf(layer);
        needArea(area);
        return found.worths[area];
    }

    public int rim(int layer, int area)
            throws IndexOutOfBoundsException, IllegalArgumentException {
        Layer found = layerOf(layer);
        needArea(area);
        int open = 0;
        for (int square = 0; square < SQUARES; square++) {
            if (found.squares[square] == area) {
                open += found.openSides(square);
            }
        }
        return open;
    }

    public int border(int layer, int area, int other)
            throws IndexOutOfBoundsException, IllegalArgumentException {
        Layer found = layerOf(layer);
        needTwoAreas(area, other);
        int pairs = 0;
        for (int square = 0; square < SQUARES; square++) {
            for (int side = 0; side < SIDES; side++) {
                int next = neighbour(square, side);
                if (next != NONE && found.squares[square] == area
                        && found.squares[next] == other) {
                    pairs++;
                }
            }
        }
        return pairs;
    }

    public int distance(int layer, int area, int other)
            throws IndexOutOfBoundsException, IllegalArgumentException, NoSuchElementException {
        Layer found = layerOf(layer);
        needTwoAreas(area, other);
        if (found.sizes[area] == 0 || found.sizes[other] == 0) {
            throw new NoSuchElementException("an area has no squares");
        }
        stepMap.measure(found, area);
        return stepMap.fewestTo(found, other);
    }

    public int nearest(int layer, int area)
            throws IndexOutOfBoundsException, IllegalArgumentException, NoSuchElementException {
        Layer found = layerOf(layer);
        needArea(area);
        stepMap.measure(found, area);
        int best = NONE;
        int fewest = FAR;
        for (int other = 0; other < AREAS; other++) {
            int steps = stepMap.fewestTo(found, other);
            if (other != area && steps < fewest) {
                best = other;
                fewest = steps;
            }
        }
        if (best == NONE) {
            throw new NoSuchElementException("no two areas have squares");
        }
        return best;
    }

    public int belt(int layer, int area, int width)
            throws IndexOutOfBoundsException, IllegalArgumentException {
        Layer found = layerOf(layer);
        needArea(area);
        if (width < 1 || width > MOST_STEPS) {
            throw new IllegalArgumentException("the width is out of range");
        }
        stepMap.measure(found, area);
        return stepMap.squaresWithin(width);
    }

    // ---- versions

    public int checkOut(int layer, int x, int y, int dx, int dy)
            throws IndexOutOfBoundsException, IllegalArgumentException, IllegalStateException {
        Layer found = layerOf(layer);
        needBox(x, y, dx, dy);
        if (inSession || versionCount >= MOST_VERSIONS) {
            throw new IllegalStateException("a session is there, or all versions are");
        }
        Version version = new Version(found, x, y, x + dx, y + dy);
        version.rebase();
        versions[versionCount] = version;
        versionCount++;
        return versionCount - 1;
    }

    public int change(int version, int square, int area)
            throws NoSuchElementException, IndexOutOfBoundsException, IllegalArgumentException {
        Version found = versionOf(version);
        needSquare(square);
        if (!found.holds(square)) {
            throw new IndexOutOfBoundsException("the square is not in the box");
        }
        needAreaOrNone(area);
        int before = found.squares[square];
        found.squares[square] = area;
        return before;
    }

    public int conflicts(int version) throws NoSuchElementException {
        return versionOf(version).markConflicts();
    }

    public int clashes(int version) throws NoSuchElementException {
        Version found = versionOf(version);
        found.markConflicts();
        // Laid over themselves, the conflicts have their clashes as pieces.
        overlay.lay(found.marks, found.marks);
        return overlay.count;
    }

    public int reconcile(int version, char side)
            throws NoSuchElementException, IllegalArgumentException, IllegalStateException {
        Version found = versionOf(version);
        if (side != 'v' && side != 'l') {
            throw new IllegalArgumentException("no such side");
        }
        needSession();
        int changed = 0;
        for (int square = 0; square < SQUARES; square++) {
            if (found.isDue(square, side == 'v')) {
                int area = found.squares[square];
                found.layer.openEdit();
                found.layer.give(square, area);
                changed += found.layer.closeEdit(area);
            }
        }
        found.rebase();
        return changed;
    }

    // ---- overlays and matches

    public int pieces(int first, int second) throws IndexOutOfBoundsException {
        needTwoLayers(first, second);
        layOver(first, second);
        return overlay.count;
    }

    public int pieceSize(int first, int second, int piece)
            throws IndexOutOfBoundsException, NoSuchElementException {
        needTwoLayers(first, second);
        layOver(first, second);
        needPiece(piece);
        return overlay.sizes[piece];
    }

    public int parent(int first, int second, int piece, boolean isSecond)
            throws IndexOutOfBoundsException, NoSuchElementException {
        needTwoLayers(first, second);
        layOver(first, second);
        needPiece(piece);
        return isSecond ? overlay.seconds[piece] : overlay.firsts[piece];
    }

    public int match(int first, int area, int second)
            throws IndexOutOfBoundsException, IllegalArgumentException, NoSuchElementException {
        needTwoLayers(first, second);
        needArea(area);
        int best = bestMatch(layerOf(first), area, layerOf(second));
        if (best == NONE) {
            throw new NoSuchElementException("there is no match");
        }
        return best;
    }

    public char matchKind(int first, int area, int second)
            throws IndexOutOfBoundsException, IllegalArgumentException {
        needTwoLayers(first, second);
        needArea(area);
        Layer one = layerOf(first);
        Layer two = layerOf(second);
        int best = bestMatch(one, area, two);
        if (!isArea(best)) {
            return 'n';
        }
        int twice = 2 * commonSize(one, area, two, best);
        return twice > one.sizes[area] && twice > two.sizes[best] ? 's' : 'd';
    }

    // ---- coarser maps and names

    public int coarse(int layer, int least, int area)
            throws IndexOutOfBoundsException, IllegalArgumentException, NoSuchElementException {
        Layer found = layerOf(layer);
        needLeast(least);
        needArea(area);
        if (found.sizes[area] == 0) {
            throw new NoSuchElementException("the area has no squares");
        }
        coarseMap.draw(found, least);
        return coarseMap.sums[area];
    }

    public int coarseAreas(int layer, int least)
            throws IndexOutOfBoundsException, IllegalArgumentException {
        Layer found = layerOf(layer);
        needLeast(least);
        coarseMap.draw(found, least);
        return coarseMap.countAreas();
    }

    public int name(int layer, int area, int length)
            throws IndexOutOfBoundsException, IllegalArgumentException {
        Layer found = layerOf(layer);
        needArea(area);
        if (length < 0 || length > MOST_LENGTH) {
            throw new IllegalArgumentException("the length is out of range");
        }
        int before = found.lengths[area];
        found.lengths[area] = length;
        return before;
    }

    public int placeOf(int layer, int area)
            throws IndexOutOfBoundsException, IllegalArgumentException, NoSuchElementException {
        Layer found = layerOf(layer);
        needArea(area);
        int place = namePlan.firstSquare(found, area);
        if (place == NONE) {
            throw new NoSuchElementException("no name, or it is not placed");
        }
        return place;
    }

    // ---- figures

    public long values(int layer) throws IndexOutOfBoundsException {
        Layer found = layerOf(layer);
        long sum = 0;
        for (int area = 0; area < AREAS; area++) {
            sum += found.worths[area];
        }
        return sum;
    }

    public float covered(int layer) throws IndexOutOfBoundsException {
        Layer found = layerOf(layer);
        int count = 0;
        for (int area = 0; area < AREAS; area++) {
            count += found.sizes[area];
        }
        return (float) count / (float) SQUARES;
    }

    public double meanPiece(int first, int second)
            throws IndexOutOfBoundsException, ArithmeticException {
        needTwoLayers(first, second);
        layOver(first, second);
        if (overlay.count == 0) {
            throw new ArithmeticException("there are no pieces");
        }
        int sum = 0;
        for (int piece = 0; piece < overlay.count; piece++) {
            sum += overlay.sizes[piece];
        }
        return (double) sum / (double) overlay.count;
    }

    public boolean isSound() {
        for (int first = 0; first < LAYERS; first++) {
            for (int second = first + 1; second < LAYERS; second++) {
                if (!addsUp(first, second)) {
                    return false;
                }
            }
        }
        for (int number = 0; number < LAYERS; number++) {
            Layer layer = layerOf(number);
            if (!layer.hasSoundWorths() || !inSession && !layer.isAsStored(now)) {
                return false;
            }
        }
        return true;
    }

    // ---- what the calls share

    private Layer layerOf(int layer) {
        Layer found = layer >= 0 && layer < LAYERS ? layers[layer] : null;
        if (found == null) {
            throw new IndexOutOfBoundsException("no such layer");
        }
        return found;
    }

    private Rule ruleOf(int rule) {
        Rule found = rule >= 0 && rule < MOST_RULES ? rules[rule] : null;
        if (found == null) {
            throw new NoSuchElementException("no such rule");
        }
        return found;
    }

    private Version versionOf(int version) {
        Version found = version >= 0 && version < MOST_VERSIONS ? versions[version] : null;
        if (found == null) {
            throw new NoSuchElementException("no such version");
        }
        return found;
    }

    private void layOver(int first, int second) {
        overlay.lay(layerOf(first).squares, layerOf(second).squares);
    }

    private boolean addsUp(int first, int second) {
        layOver(first, second);
        for (int area = 0; area < AREAS; area++) {
            if (overlay.sumOf(overlay.firsts, area) != layerOf(first).sizes[area]
                    || overlay.sumOf(overlay.seconds, area) != layerOf(second).sizes[area]) {
                return false;
            }
        }
        return true;
    }

    private static int bestMatch(Layer first, int area, Layer second) {
        int best = NONE;
        int greatest = 0;
        for (int other = 0; other < AREAS; other++) {
            int common = commonSize(first, area, second, other);
            if (common > greatest) {
                best = other;
                greatest = common;
            }
        }
        return best;
    }

    private static int commonSize(Layer first, int area, Layer second, int other) {
        int common = 0;
        for (int square = 0; square < SQUARES; square++) {
            if (first.squares[square] == area && second.squares[square] == other) {
                common++;
            }
        }
        return common;
    }

    private void needSession() {
        if (!inSession) {
            throw new IllegalStateException("there is no session");
        }
    }

    private void needTwoLayers(int first, int second) {
        if (first < 0 || first >= LAYERS || second < 0 || second >= LAYERS || first == second) {
            throw new IndexOutOfBoundsException("no such two layers");
        }
    }

    private void needPiece(int piece) {
        if (piece < 0 || piece >= overlay.count) {
            throw new NoSuchElementException("no such piece");
        }
    }

    private void needTime(int time) {
        if (time < 0 || time > now) {
            throw new IllegalArgumentException("no such time");
        }
    }

    private static void needSquare(int square) {
        if (square < 0 || square >= SQUARES) {
            throw new IndexOutOfBoundsException("no such square");
        }
    }

    private static void needArea(int area) {
        if (!isArea(area)) {
            throw new IllegalArgumentException("no such area");
        }
    }

    private static void needAreaOrNone(int area) {
        if (area != NONE) {
            needArea(area);
        }
    }

    private static void needTwoAreas(int area, int other) {
        needArea(area);
        needArea(other);
        if (area == other) {
            throw new IllegalArgumentException("both areas are the same");
        }
    }

    private static void needLeast(int least) {
        if (least < 1 || least > SQUARES) {
            throw new IllegalArgumentException("the least size is out of range");
        }
    }

    /** The lengths are set against what is left of the row, as a sum could wrap around. */
    private static void needBox(int x, int y, int dx, int dy) {
        if (x < 0 || x >= WIDTH || dx < 1 || dx > WIDTH - x
                || y < 0 || y >= WIDTH || dy < 1 || dy > WIDTH - y) {
            throw new IllegalArgumentException("no such box");
        }
    }

    private static boolean isArea(int area) {
        return area >= 0 && area < AREAS;
    }

    /** The square at a side of a square, or NONE at the rim of the map. */
    private static int neighbour(int square, int side) {
        int x = square % WIDTH;
        int y = square / WIDTH;
        switch (side) {
            case RIGHT:
                return x < WIDTH - 1 ? square + 1 : NONE;
            case DOWN:
                return y < WIDTH - 1 ? square + WIDTH : NONE;
            case LEFT:
                return x > 0 ? square - 1 : NONE;
            case UP:
                return y > 0 ? square - WIDTH : NONE;
            default:
                return NONE;
        }
    }

    /** The squares of a layer with what is told of its areas, now and at the kept times. */
    private static final class Layer {
        final int[] squares = new int[SQUARES];
        final int[] sizes = new int[AREAS];
        final int[] worths = new int[AREAS];
        final int[] lengths = new int[AREAS];
        boolean dividing = true;
        private final int[] worthsAhead = new int[AREAS];
        private final int[] stored = new int[(MOST_SESSIONS + 1) * SQUARES];
        private final int[] losses = new int[AREAS];
        private int changed;

        Layer() {
            for (int square = 0; square < SQUARES; square++) {
                squares[square] = NONE;
                stored[square] = NONE;
            }
        }

        void openEdit() {
            Arrays.fill(losses, 0);
            changed = 0;
        }

        void give(int square, int area) {
            if (square < 0 || square >= SQUARES || squares[square] == area) {
                return;
            }
            int loser = squares[square];
            if (isArea(loser)) {
                losses[loser]++;
            }
            put(square, area);
            changed++;
        }

        /** Shares the values out, once all squares of the edit are given to the area. */
        int closeEdit(int area) {
            for (int loser = 0; loser < AREAS; loser++) {
                if (dividing) {
                    handOver(loser, area);
                }
                if (sizes[loser] == 0) {
                    worths[loser] = 0;
                }
            }
            return changed;
        }

        private void handOver(int loser, int area) {
            // An area that loses squares in an edit gets none in it.
            int sizeAhead = sizes[loser] + losses[loser];
            if (losses[loser] == 0 || sizeAhead == 0) {
                return;
            }
            int part = (int) ((long) worths[loser] * losses[loser] / sizeAhead);
            worths[loser] -= part;
            if (isArea(area)) {
                worths[area] += part;
            }
        }

        private void put(int square, int area) {
            int before = squares[square];
            if (isArea(before)) {
                sizes[before]--;
            }
            if (isArea(area)) {
                sizes[area]++;
            }
            squares[square] = area;
        }

        void rememberWorths() {
            System.arraycopy(worths, 0, worthsAhead, 0, AREAS);
        }

        void store(int time) {
            if (time >= 0 && time <= MOST_SESSIONS) {
                System.arraycopy(squares, 0, stored, time * SQUARES, SQUARES);
            }
        }

        int goBack(int time) {
            int back = 0;
            for (int square = 0; square < SQUARES; square++) {
                int then = areaBy(time, square);
                if (squares[square] != then) {
                    put(square, then);
                    back++;
                }
            }
            System.arraycopy(worthsAhead, 0, worths, 0, AREAS);
            return back;
        }

        int areaBy(int time, int square) {
            int at = time * SQUARES + square;
            return at >= 0 && at < stored.length ? stored[at] : NONE;
        }

        boolean isAsStored(int time) {
            for (int square = 0; square < SQUARES; square++) {
                if (squares[square] != areaBy(time, square)) {
                    return false;
                }
            }
            return true;
        }

        boolean hasSoundWorths() {
            for (int area = 0; area < AREAS; area++) {
                if (worths[area] < 0 || sizes[area] == 0 && worths[area] != 0) {
                    return false;
                }
            }
            return true;
        }

        /** The rim of the map counts as open, too. */
        int openSides(int square) {
            int open = 0;
            for (int side = 0; side < SIDES; side++) {
                int next = neighbour(square, side);
                if (next == NONE || squares[next] != squares[square]) {
                    open++;
                }
            }
            return open;
        }
    }

    /** A rule between two layers. */
    private static final class Rule {
        private final char kind;
        private final Layer first;
        private final Layer second;
        boolean signed;

        Rule(char kind, Layer first, Layer second) {
            this.kind = kind;
            this.first = first;
            this.second = second;
        }

        int breaks() {
            int count = 0;
            for (int square = 0; square < SQUARES; square++) {
                if (kind == 'a') {
                    count += breaksAlong(square, RIGHT) + breaksAlong(square, DOWN);
                } else {
                    count += breaksAt(square);
                }
            }
            return count;
        }

        private int breaksAt(int square) {
            boolean isInFirst = first.squares[square] != NONE;
            boolean isInSecond = second.squares[square] != NONE;
            boolean isBroken = isInFirst && (kind == 'i' ? !isInSecond : isInSecond);
            return isBroken ? 1 : 0;
        }

        private int breaksAlong(int square, int side) {
            int next = neighbour(square, side);
            boolean isBroken = next != NONE
                    && first.squares[square] != first.squares[next]
                    && second.squares[square] == second.squares[next];
            return isBroken ? 1 : 0;
        }
    }

    /** A box of a layer that is changed on its own, with its base; right and bottom lie outside. */
    private static final class Version {
        final Layer layer;
        final int[] squares = new int[SQUARES];
        final int[] marks = new int[SQUARES];
        private final int[] base = new int[SQUARES];
        private final int left;
        private final int top;
        private final int right;
        private final int bottom;

        Version(Layer layer, int left, int top, int right, int bottom) {
            this.layer = layer;
            this.left = left;
            this.top = top;
            this.right = right;
            this.bottom = bottom;
        }

        /** Squares outside of the box are copied too, but never looked at. */
        void rebase() {
            System.arraycopy(layer.squares, 0, base, 0, SQUARES);
            System.arraycopy(layer.squares, 0, squares, 0, SQUARES);
        }

        boolean holds(int square) {
            int x = square % WIDTH;
            int y = square / WIDTH;
            return x >= left && x < right && y >= top && y < bottom;
        }

        /** Marks conflicts with the area 0 and all else with none, for an overlay of the marks. */
        int markConflicts() {
            int count = 0;
            for (int square = 0; square < SQUARES; square++) {
                boolean isConflict = isConflict(square);
                marks[square] = isConflict ? 0 : NONE;
                count += isConflict ? 1 : 0;
            }
            return count;
        }

        /** Whether a reconciling gives the square as the version tells. */
        boolean isDue(int square, boolean versionWins) {
            return isChanged(square) && (versionWins || layer.squares[square] == base[square]);
        }

        private boolean isConflict(int square) {
            return isChanged(square) && layer.squares[square] != base[square]
                    && layer.squares[square] != squares[square];
        }

        private boolean isChanged(int square) {
            return holds(square) && squares[square] != base[square];
        }
    }

    /** The pieces of two maps that lie one over the other. */
    private static final class Overlay {
        final int[] sizes = new int[SQUARES];
        final int[] firsts = new int[SQUARES];
        final int[] seconds = new int[SQUARES];
        int count;
        private final int[] pieceAt = new int[SQUARES];
        private final int[] waiting = new int[SQUARES];

        void lay(int[] first, int[] second) {
            count = 0;
            Arrays.fill(pieceAt, NONE);
            for (int square = 0; square < SQUARES; square++) {
                boolean isCovered = first[square] != NONE || second[square] != NONE;
                if (isCovered && pieceAt[square] == NONE && count < SQUARES) {
                    firsts[count] = first[square];
                    seconds[count] = second[square];
                    sizes[count] = spread(first, second, square);
                    count++;
                }
            }
        }

        private int spread(int[] first, int[] second, int start) {
            int found = 1;
            waiting[0] = start;
            pieceAt[start] = count;
            for (int looked = 0; looked < found && looked < SQUARES; looked++) {
                for (int side = 0; side < SIDES; side++) {
                    int next = neighbour(waiting[looked], side);
                    if (next != NONE && found < SQUARES && pieceAt[next] == NONE
                            && first[next] == first[start] && second[next] == second[start]) {
                        pieceAt[next] = count;
                        waiting[found] = next;
                        found++;
                    }
                }
            }
            return found;
        }

        int sumOf(int[] parents, int area) {
            int sum = 0;
            for (int piece = 0; piece < count; piece++) {
                if (parents[piece] == area) {
                    sum += sizes[piece];
                }
            }
            return sum;
        }
    }

    /** The number of steps from each square to an area; FAR if the area has no squares. */
    private static final class StepMap {
        private final int[] steps = new int[SQUARES];

        /** There and back is enough: a shortest way needs no turn back in x or in y. */
        void measure(Layer layer, int area) {
            for (int square = 0; square < SQUARES; square++) {
                steps[square] = layer.squares[square] == area ? 0 : FAR;
                stepFrom(square, LEFT);
                stepFrom(square, UP);
            }
            for (int square = SQUARES - 1; square >= 0; square--) {
                stepFrom(square, RIGHT);
                stepFrom(square, DOWN);
            }
        }

        private void stepFrom(int square, int side) {
            int next = neighbour(square, side);
            if (next != NONE && steps[next] + 1 < steps[square]) {
                steps[square] = steps[next] + 1;
            }
        }

        int fewestTo(Layer layer, int other) {
            int fewest = FAR;
            for (int square = 0; square < SQUARES; square++) {
                if (layer.squares[square] == other && steps[square] < fewest) {
                    fewest = steps[square];
                }
            }
            return fewest;
        }

        int squaresWithin(int width) {
            int count = 0;
            for (int square = 0; square < SQUARES; square++) {
                if (steps[square] > 0 && steps[square] <= width) {
                    count++;
                }
            }
            return count;
        }
    }

    /** The coarser map of a layer: it needs no squares, only sizes and borders. */
    private static final class CoarseMap {
        /** For each area the one to which it belongs in the coarser map. */
        final int[] sums = new int[AREAS];
        private final int[] sizes = new int[AREAS];
        private final int[][] borders = new int[AREAS][AREAS];

        void draw(Layer layer, int least) {
            for (int area = 0; area < AREAS; area++) {
                sums[area] = area;
                sizes[area] = layer.sizes[area];
                Arrays.fill(borders[area], 0);
            }
            countBorders(layer);
            // Each round leaves one area less with squares.
            for (int round = 0; round < AREAS; round++) {
                int small = smallest(least);
                int into = isArea(small) ? longestBorder(small) : NONE;
                if (!isArea(small) || !isArea(into)) {
                    return;
                }
                join(small, into);
            }
        }

        int countAreas() {
            int count = 0;
            for (int area = 0; area < AREAS; area++) {
                if (sizes[area] > 0) {
                    count++;
                }
            }
            return count;
        }

        private void countBorders(Layer layer) {
            for (int square = 0; square < SQUARES; square++) {
                for (int side = 0; side < PAIR_SIDES; side++) {
                    int next = neighbour(square, side);
                    if (next != NONE) {
                        countPair(layer.squares[square], layer.squares[next]);
                    }
                }
            }
        }

        private void countPair(int area, int other) {
            if (isArea(area) && isArea(other) && area != other) {
                borders[area][other]++;
                borders[other][area]++;
            }
        }

        private int smallest(int least) {
            int small = NONE;
            int size = least;
            for (int area = 0; area < AREAS; area++) {
                if (sizes[area] > 0 && sizes[area] < size && longestBorder(area) != NONE) {
                    small = area;
                    size = sizes[area];
                }
            }
            return small;
        }

        private int longestBorder(int area) {
            int best = NONE;
            int longest = 0;
            for (int other = 0; other < AREAS; other++) {
                if (borders[area][other] > longest) {
                    best = other;
                    longest = borders[area][other];
                }
            }
            return best;
        }

        private void join(int small, int into) {
            sizes[into] += sizes[small];
            sizes[small] = 0;
            for (int area = 0; area < AREAS; area++) {
                if (sums[area] == small) {
                    sums[area] = into;
                }
                if (area != small && area != into) {
                    borders[into][area] += borders[small][area];
                    borders[area][into] = borders[into][area];
                }
                borders[small][area] = 0;
                borders[area][small] = 0;
            }
        }
    }

    /** Where the names of a layer are placed. */
    private static final class NamePlan {
        /** The area whose name a square has, or NONE. */
        private final int[] nameAt = new int[SQUARES];

        int firstSquare(Layer layer, int wanted) {
            Arrays.fill(nameAt, NONE);
            int area = NONE;
            for (int round = 0; round < AREAS; round++) {
                area = nextArea(layer, area);
                if (!isArea(area)) {
                    return NONE;
                }
                int place = bestPlace(layer, area);
                if (area == wanted) {
                    return place;
                }
                if (place != NONE) {
                    write(area, place, layer.lengths[area]);
                }
            }
            return NONE;
        }

        private int nextArea(Layer layer, int last) {
            int best = NONE;
            for (int area = 0; area < AREAS; area++) {
                boolean isLeft = layer.lengths[area] > 0 && layer.sizes[area] > 0
                        && (!isArea(last) || comesBefore(layer, last, area));
                if (isLeft && (!isArea(best) || comesBefore(layer, area, best))) {
                    best = area;
                }
            }
            return best;
        }

        private static boolean comesBefore(Layer layer, int area, int other) {
            int size = layer.sizes[area];
            int otherSize = layer.sizes[other];
            return size > otherSize || size == otherSize && area < other;
        }

        private int bestPlace(Layer layer, int area) {
            int size = layer.sizes[area];
            int length = layer.lengths[area];
            if (size == 0) {
                return NONE;
            }
            int middleX = sumOf(layer, area, true) / size;
            int middleY = sumOf(layer, area, false) / size;
            int best = NONE;
            int least = FAR;
            for (int square = 0; square < SQUARES; square++) {
                int bad = Math.abs(square % WIDTH + length / 2 - middleX)
                        + Math.abs(square / WIDTH - middleY);
                if (bad < least && isFree(layer, area, square, length)) {
                    best = square;
                    least = bad;
                }
            }
            return best;
        }

        private static int sumOf(Layer layer, int area, boolean alongX) {
            int sum = 0;
            for (int square = 0; square < SQUARES; square++) {
                if (layer.squares[square] == area) {
                    sum += alongX ? square % WIDTH : square / WIDTH;
                }
            }
            return sum;
        }

        private boolean isFree(Layer layer, int area, int place, int length) {
            if (place % WIDTH + length > WIDTH) {
                return false;
            }
            for (int square = place; square < place + length; square++) {
                if (layer.squares[square] != area || isNearName(square)) {
                    return false;
                }
            }
            return true;
        }

        private boolean isNearName(int square) {
            boolean isNear = nameAt[square] != NONE;
            for (int side = 0; side < SIDES; side++) {
                int next = neighbour(square, side);
                isNear = isNear || next != NONE && nameAt[next] != NONE;
            }
            return isNear;
        }

        private void write(int area, int place, int length) {
            for (int square = place; square < place + length; square++) {
                if (square >= 0 && square < SQUARES) {
                    nameAt[square] = area;
                }
            }
        }
    }
}
