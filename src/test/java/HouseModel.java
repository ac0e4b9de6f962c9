import java.util.ArrayList;
import java.util.Arrays;
import java.util.Comparator;
import java.util.HashMap;
import java.util.List;
import java.util.Map;
import java.util.NoSuchElementException;
import java.util.Set;
import java.util.TreeMap;
import java.util.TreeSet;

/**
 * The document once more, as literally as the Java library allows and with no regard to cost,
 * so that ModelTest can hold the class against it.
 */
final class HouseModel {
    private record Rule(char kind, int first, int second) {
    }

    private record Version(int layer, Set<Integer> box, int[] base, int[] squares) {
    }

    private record Piece(int first, int second, int size) {
    }

    private record Place(int bad, int square) {
    }

    private final int[][] area = new int[3][256];
    private final long[][] worth = new long[3][10];
    private final int[][] length = new int[3][10];
    private final boolean[] divides = {true, true, true};
    private final List<int[][]> history = new ArrayList<>();
    private final List<Integer> authors = new ArrayList<>();
    private final List<Rule> rules = new ArrayList<>();
    private final Set<Integer> signed = new TreeSet<>();
    private final List<Version> versions = new ArrayList<>();
    private long[][] worthAhead;
    private int author = -1;

    HouseModel() {
        for (int[] row : area) {
            Arrays.fill(row, -1);
        }
        history.add(copy(area));
        authors.add(-1);
    }

    int time() {
        return history.size() - 1;
    }

    // ---- sessions and edits

    public int begin(int author) {
        argument(in(author, 5));
        state(this.author == -1 && time() < 40);
        this.author = author;
        signed.clear();
        worthAhead = new long[][] {worth[0].clone(), worth[1].clone(), worth[2].clone()};
        return time();
    }

    public int paint(int layer, int area, int x, int y, int dx, int dy) {
        index(in(layer, 2));
        argument(area == -1 || in(area, 9));
        Set<Integer> box = box(x, y, dx, dy);
        state(author != -1);
        return edit(layer, box, area);
    }

    public int split(int layer, int area, int other, char axis, int at) {
        index(in(layer, 2));
        argument(in(area, 9) && in(other, 9) && area != other);
        argument(axis == 'x' || axis == 'y');
        argument(in(at, 15));
        state(author != -1);
        unsupported(squaresOf(layer, other).isEmpty());
        Set<Integer> part = squaresOf(layer, area);
        part.removeIf(square -> (axis == 'x' ? square % 16 : square / 16) < at);
        return edit(layer, part, other);
    }

    public int merge(int layer, int area, int into) {
        index(in(layer, 2));
        argument(in(area, 9) && in(into, 9) && area != into);
        state(author != -1);
        return edit(layer, squaresOf(layer, area), into);
    }

    public int setValue(int layer, int area, int value) {
        index(in(layer, 2));
        argument(in(area, 9) && in(value, 9999));
        state(author != -1);
        unsupported(!squaresOf(layer, area).isEmpty());
        long before = worth[layer][area];
        worth[layer][area] = value;
        return (int) before;
    }

    public boolean setDivides(int layer, boolean divides) {
        index(in(layer, 2));
        boolean before = this.divides[layer];
        this.divides[layer] = divides;
        return before;
    }

    public int sign(int rule) {
        element(in(rule, rules.size() - 1));
        state(author != -1);
        signed.add(rule);
        return signed.size();
    }

    public int keep() {
        state(author != -1);
        for (int rule = 0; rule < rules.size(); rule++) {
            unsupported(signed.contains(rule) || broken(rule) == 0);
        }
        history.add(copy(area));
        authors.add(author);
        author = -1;
        return time();
    }

    public int drop() {
        state(author != -1);
        author = -1;
        int changed = 0;
        int[][] then = history.get(time());
        for (int layer = 0; layer < 3; layer++) {
            for (int square = 0; square < 256; square++) {
                changed += area[layer][square] == then[layer][square] ? 0 : 1;
                area[layer][square] = then[layer][square];
            }
            worth[layer] = worthAhead[layer];
        }
        return changed;
    }

    // ---- rules

    public int addRule(char kind, int first, int second) {
        argument(kind == 'i' || kind == 'n' || kind == 'a');
        twoLayers(first, second);
        state(rules.size() < 6 && author == -1);
        rules.add(new Rule(kind, first, second));
        return rules.size() - 1;
    }

    public int broken(int rule) {
        element(in(rule, rules.size() - 1));
        Rule asked = rules.get(rule);
        int[] first = area[asked.first];
        int[] second = area[asked.second];
        int count = 0;
        for (int square = 0; square < 256; square++) {
            boolean inside = first[square] >= 0 && second[square] < 0;
            boolean over = first[square] >= 0 && second[square] >= 0;
            count += asked.kind == 'i' && inside || asked.kind == 'n' && over ? 1 : 0;
            for (int next = square + 1; next < 256; next++) {
                boolean along = steps(square, next) == 1
                        && first[square] != first[next] && second[square] == second[next];
                count += asked.kind == 'a' && along ? 1 : 0;
            }
        }
        return count;
    }

    public int leastBroken() {
        Map<Integer, Integer> lowest = new TreeMap<>();
        for (int rule = rules.size() - 1; rule >= 0; rule--) {
            if (broken(rule) > 0) {
                lowest.put(broken(rule), rule);
            }
        }
        element(!lowest.isEmpty());
        return lowest.values().iterator().next();
    }

    // ---- squares, areas and history

    public int areaAt(int layer, int square) {
        index(in(layer, 2) && in(square, 255));
        return area[layer][square];
    }

    public int areaThen(int layer, int square, int time) {
        index(in(layer, 2) && in(square, 255));
        argument(in(time, time()));
        return history.get(time)[layer][square];
    }

    public int authorOf(int layer, int square, int time) {
        index(in(layer, 2) && in(square, 255));
        argument(in(time, time()));
        int last = -1;
        for (int session = 1; session <= time; session++) {
            int behind = history.get(session)[layer][square];
            int ahead = history.get(session - 1)[layer][square];
            last = behind == ahead ? last : authors.get(session);
        }
        element(last != -1);
        return last;
    }

    public int size(int layer, int area) {
        index(in(layer, 2));
        argument(in(area, 9));
        return squaresOf(layer, area).size();
    }

    public int value(int layer, int area) {
        index(in(layer, 2));
        argument(in(area, 9));
        return (int) worth[layer][area];
    }

    public int rim(int layer, int area) {
        index(in(layer, 2));
        argument(in(area, 9));
        Set<Integer> own = squaresOf(layer, area);
        int sides = 4 * own.size();
        for (int one : own) {
            for (int two : own) {
                sides -= steps(one, two) == 1 ? 1 : 0;
            }
        }
        return sides;
    }

    public int border(int layer, int area, int other) {
        index(in(layer, 2));
        argument(in(area, 9) && in(other, 9) && area != other);
        return pairs(squaresOf(layer, area), squaresOf(layer, other));
    }

    public int distance(int layer, int area, int other) {
        index(in(layer, 2));
        argument(in(area, 9) && in(other, 9) && area != other);
        return fewestSteps(layer, area, other);
    }

    public int nearest(int layer, int area) {
        index(in(layer, 2));
        argument(in(area, 9));
        Map<Integer, Integer> lowest = new TreeMap<>();
        for (int other = 9; other >= 0; other--) {
            boolean both = !squaresOf(layer, area).isEmpty() && !squaresOf(layer, other).isEmpty();
            if (other != area && both) {
                lowest.put(fewestSteps(layer, area, other), other);
            }
        }
        element(!lowest.isEmpty());
        return lowest.values().iterator().next();
    }

    public int belt(int layer, int area, int width) {
        index(in(layer, 2));
        argument(in(area, 9) && width >= 1 && width <= 30);
        Set<Integer> own = squaresOf(layer, area);
        Set<Integer> belt = new TreeSet<>();
        for (int square = 0; square < 256; square++) {
            for (int each : own) {
                if (!own.contains(square) && steps(square, each) <= width) {
                    belt.add(square);
                }
            }
        }
        return belt.size();
    }

    // ---- versions

    public int checkOut(int layer, int x, int y, int dx, int dy) {
        index(in(layer, 2));
        Set<Integer> box = box(x, y, dx, dy);
        state(author == -1 && versions.size() < 3);
        versions.add(new Version(layer, box, area[layer].clone(), area[layer].clone()));
        return versions.size() - 1;
    }

    public int change(int version, int square, int area) {
        element(in(version, versions.size() - 1));
        index(versions.get(version).box.contains(square));
        argument(area == -1 || in(area, 9));
        int before = versions.get(version).squares[square];
        versions.get(version).squares[square] = area;
        return before;
    }

    public int conflicts(int version) {
        element(in(version, versions.size() - 1));
        return conflictsOf(versions.get(version)).size();
    }

    public int clashes(int version) {
        element(in(version, versions.size() - 1));
        Set<Integer> left = conflictsOf(versions.get(version));
        int clashes = 0;
        while (!left.isEmpty()) {
            clashes++;
            Set<Integer> clash = new TreeSet<>();
            clash.add(left.iterator().next());
            boolean grows = true;
            while (grows) {
                Set<Integer> more = new TreeSet<>();
                for (int square : left) {
                    if (clash.stream().anyMatch(each -> steps(each, square) == 1)) {
                        more.add(square);
                    }
                }
                grows = clash.addAll(more);
            }
            left.removeAll(clash);
        }
        return clashes;
    }

    public int reconcile(int version, char side) {
        element(in(version, versions.size() - 1));
        argument(side == 'v' || side == 'l');
        state(author != -1);
        Version asked = versions.get(version);
        Set<Integer> conflicts = conflictsOf(asked);
        int[] now = area[asked.layer];
        int changed = 0;
        for (int square : asked.box) {
            boolean byVersion = asked.squares[square] != asked.base[square];
            boolean byLayer = now[square] != asked.base[square];
            boolean isGiven = byVersion && !byLayer || conflicts.contains(square) && side == 'v';
            if (isGiven) {
                changed += edit(asked.layer, Set.of(square), asked.squares[square]);
            }
        }
        for (int square : asked.box) {
            asked.base[square] = now[square];
            asked.squares[square] = now[square];
        }
        return changed;
    }

    // ---- overlays and matches

    public int pieces(int first, int second) {
        twoLayers(first, second);
        return piecesOf(first, second).size();
    }

    public int pieceSize(int first, int second, int piece) {
        twoLayers(first, second);
        element(in(piece, piecesOf(first, second).size() - 1));
        return piecesOf(first, second).get(piece).size;
    }

    public int parent(int first, int second, int piece, boolean isSecond) {
        twoLayers(first, second);
        element(in(piece, piecesOf(first, second).size() - 1));
        Piece asked = piecesOf(first, second).get(piece);
        return isSecond ? asked.second : asked.first;
    }

    public int match(int first, int area, int second) {
        twoLayers(first, second);
        argument(in(area, 9));
        int best = bestMatch(first, area, second);
        element(best != -1);
        return best;
    }

    public char matchKind(int first, int area, int second) {
        twoLayers(first, second);
        argument(in(area, 9));
        int best = bestMatch(first, area, second);
        if (best == -1) {
            return 'n';
        }
        int common = common(first, area, second, best);
        int greater = Math.max(size(first, area), size(second, best));
        return 2 * common > greater ? 's' : 'd';
    }

    // ---- coarser maps and names

    public int coarse(int layer, int least, int area) {
        index(in(layer, 2));
        argument(least >= 1 && least <= 256 && in(area, 9));
        Set<Integer> own = squaresOf(layer, area);
        element(!own.isEmpty());
        return coarser(layer, least)[own.iterator().next()];
    }

    public int coarseAreas(int layer, int least) {
        index(in(layer, 2));
        argument(least >= 1 && least <= 256);
        Set<Integer> areas = new TreeSet<>();
        for (int each : coarser(layer, least)) {
            areas.add(each);
        }
        areas.remove(-1);
        return areas.size();
    }

    public int name(int layer, int area, int length) {
        index(in(layer, 2));
        argument(in(area, 9) && in(length, 6));
        int before = this.length[layer][area];
        this.length[layer][area] = length;
        return before;
    }

    public int placeOf(int layer, int area) {
        index(in(layer, 2));
        argument(in(area, 9));
        List<Integer> order = new ArrayList<>(List.of(0, 1, 2, 3, 4, 5, 6, 7, 8, 9));
        order.sort(Comparator.comparing((Integer each) -> -size(layer, each)));
        Set<Integer> names = new TreeSet<>();
        Map<Integer, Integer> placed = new HashMap<>();
        for (int each : order) {
            List<Place> places = placesFor(layer, each, names);
            if (length[layer][each] > 0 && !places.isEmpty()) {
                places.sort(Comparator.comparing(Place::bad).thenComparing(Place::square));
                int square = places.get(0).square;
                placed.put(each, square);
                names.addAll(row(square, length[layer][each]));
            }
        }
        element(placed.containsKey(area));
        return placed.get(area);
    }

    // ---- figures

    public long values(int layer) {
        index(in(layer, 2));
        return Arrays.stream(worth[layer]).sum();
    }

    public float covered(int layer) {
        index(in(layer, 2));
        return (float) (256 - squaresOf(layer, -1).size()) / 256f;
    }

    public double meanPiece(int first, int second) {
        twoLayers(first, second);
        List<Piece> pieces = piecesOf(first, second);
        if (pieces.isEmpty()) {
            throw new ArithmeticException();
        }
        return (double) pieces.stream().mapToInt(Piece::size).sum() / (double) pieces.size();
    }

    public boolean isSound() {
        return true;
    }

    // ---- what the calls share

    private int edit(int layer, Set<Integer> squares, int to) {
        int[] ahead = area[layer].clone();
        int changed = 0;
        for (int square : squares) {
            changed += ahead[square] == to ? 0 : 1;
            area[layer][square] = to;
        }
        for (int loser = 0; loser < 10; loser++) {
            long size = 0;
            long lost = 0;
            for (int square = 0; square < 256; square++) {
                size += ahead[square] == loser ? 1 : 0;
                lost += ahead[square] == loser && area[layer][square] != loser ? 1 : 0;
            }
            if (divides[layer] && lost > 0) {
                long part = worth[layer][loser] * lost / size;
                worth[layer][loser] -= part;
                if (to != -1) {
                    worth[layer][to] += part;
                }
            }
        }
        for (int each = 0; each < 10; each++) {
            if (squaresOf(layer, each).isEmpty()) {
                worth[layer][each] = 0;
            }
        }
        return changed;
    }

    private Set<Integer> squaresOf(int layer, int area) {
        return squaresOf(this.area[layer], area);
    }

    private static Set<Integer> squaresOf(int[] map, int area) {
        Set<Integer> squares = new TreeSet<>();
        for (int square = 0; square < 256; square++) {
            if (map[square] == area) {
                squares.add(square);
            }
        }
        return squares;
    }

    private static Set<Integer> box(int x, int y, int dx, int dy) {
        argument(in(x, 15) && in(y, 15) && dx >= 1 && dy >= 1);
        argument((long) x + dx <= 16 && (long) y + dy <= 16);
        Set<Integer> squares = new TreeSet<>();
        for (int square = 0; square < 256; square++) {
            int right = square % 16 - x;
            int down = square / 16 - y;
            if (right >= 0 && right < dx && down >= 0 && down < dy) {
                squares.add(square);
            }
        }
        return squares;
    }

    private static int steps(int one, int two) {
        return Math.abs(one % 16 - two % 16) + Math.abs(one / 16 - two / 16);
    }

    private static int pairs(Set<Integer> first, Set<Integer> second) {
        int count = 0;
        for (int one : first) {
            for (int two : second) {
                count += steps(one, two) == 1 ? 1 : 0;
            }
        }
        return count;
    }

    private int fewestSteps(int layer, int area, int other) {
        int fewest = Integer.MAX_VALUE;
        for (int one : squaresOf(layer, area)) {
            for (int two : squaresOf(layer, other)) {
                fewest = Math.min(fewest, steps(one, two));
            }
        }
        element(fewest != Integer.MAX_VALUE);
        return fewest;
    }

    private Set<Integer> conflictsOf(Version version) {
        Set<Integer> conflicts = new TreeSet<>(version.box);
        int[] now = area[version.layer];
        conflicts.removeIf(square -> version.squares[square] == version.base[square]
                || now[square] == version.base[square]
                || now[square] == version.squares[square]);
        return conflicts;
    }

    private List<Piece> piecesOf(int first, int second) {
        int[] lowest = new int[256];
        for (int square = 0; square < 256; square++) {
            lowest[square] = square;
        }
        boolean changes = true;
        while (changes) {
            changes = false;
            for (int one = 0; one < 256; one++) {
                for (int two : new int[] {one - 16, one - 1, one + 1, one + 16}) {
                    boolean alike = in(two, 255) && steps(one, two) == 1
                            && area[first][one] == area[first][two]
                            && area[second][one] == area[second][two];
                    if (alike && lowest[two] < lowest[one]) {
                        lowest[one] = lowest[two];
                        changes = true;
                    }
                }
            }
        }
        List<Piece> pieces = new ArrayList<>();
        for (int square = 0; square < 256; square++) {
            Set<Integer> members = squaresOf(lowest, square);
            if (!members.isEmpty() && (area[first][square] >= 0 || area[second][square] >= 0)) {
                pieces.add(new Piece(area[first][square], area[second][square], members.size()));
            }
        }
        return pieces;
    }

    private int common(int first, int area, int second, int other) {
        Set<Integer> both = squaresOf(first, area);
        both.retainAll(squaresOf(second, other));
        return both.size();
    }

    private int bestMatch(int first, int area, int second) {
        int best = -1;
        for (int other = 9; other >= 0; other--) {
            int common = common(first, area, second, other);
            if (common > 0 && (best == -1 || common >= common(first, area, second, best))) {
                best = other;
            }
        }
        return best;
    }

    private int[] coarser(int layer, int least) {
        int[] map = area[layer].clone();
        while (true) {
            int small = -1;
            int into = -1;
            for (int each = 9; each >= 0; each--) {
                int size = squaresOf(map, each).size();
                int partner = longestBorder(map, each);
                boolean isLeast = small == -1 || size <= squaresOf(map, small).size();
                if (size > 0 && size < least && partner != -1 && isLeast) {
                    small = each;
                    into = partner;
                }
            }
            if (small == -1) {
                return map;
            }
            for (int square : squaresOf(map, small)) {
                map[square] = into;
            }
        }
    }

    private static int longestBorder(int[] map, int area) {
        int best = -1;
        int longest = 0;
        for (int other = 0; other < 10; other++) {
            int border = other == area ? 0 : pairs(squaresOf(map, area), squaresOf(map, other));
            if (border > longest) {
                best = other;
                longest = border;
            }
        }
        return best;
    }

    private List<Place> placesFor(int layer, int area, Set<Integer> names) {
        Set<Integer> own = squaresOf(layer, area);
        List<Place> places = new ArrayList<>();
        if (own.isEmpty()) {
            return places;
        }
        int middleX = own.stream().mapToInt(square -> square % 16).sum() / own.size();
        int middleY = own.stream().mapToInt(square -> square / 16).sum() / own.size();
        int length = this.length[layer][area];
        for (int x = 0; x + length <= 16; x++) {
            for (int y = 0; y < 16; y++) {
                Set<Integer> row = row(16 * y + x, length);
                boolean isFree = own.containsAll(row);
                for (int square : row) {
                    isFree = isFree && names.stream().noneMatch(each -> steps(each, square) <= 1);
                }
                if (isFree) {
                    int bad = Math.abs(x + length / 2 - middleX) + Math.abs(y - middleY);
                    places.add(new Place(bad, 16 * y + x));
                }
            }
        }
        return places;
    }

    private static Set<Integer> row(int square, int length) {
        Set<Integer> row = new TreeSet<>();
        for (int each = 0; each < length; each++) {
            row.add(square + each);
        }
        return row;
    }

    private static int[][] copy(int[][] rows) {
        return new int[][] {rows[0].clone(), rows[1].clone(), rows[2].clone()};
    }

    private static boolean in(int number, int highest) {
        return number >= 0 && number <= highest;
    }

    private static void twoLayers(int first, int second) {
        index(in(first, 2) && in(second, 2) && first != second);
    }

    private static void index(boolean holds) {
        if (!holds) {
            throw new IndexOutOfBoundsException();
        }
    }

    private static void argument(boolean holds) {
        if (!holds) {
            throw new IllegalArgumentException();
        }
    }

    private static void state(boolean holds) {
        if (!holds) {
            throw new IllegalStateException();
        }
    }

    private static void unsupported(boolean holds) {
        if (!holds) {
            throw new UnsupportedOperationException();
        }
    }

    private static void element(boolean holds) {
        if (!holds) {
            throw new NoSuchElementException();
        }
    }
}
