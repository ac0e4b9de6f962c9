import java.lang.reflect.InvocationTargetException;
import java.lang.reflect.Method;
import java.util.ArrayList;
import java.util.Arrays;
import java.util.List;
import java.util.Map;
import java.util.TreeMap;

/**
 * Runs of 512 calls on an Overlayer and on a HouseModel: both must answer alike. The calls are
 * drawn by a counting formula, so that each run is the same at each time.
 */
public final class ModelTest {
    private static final int RUNS = 600;
    private static final int CALLS = 512;

    /**
     * How often a call is drawn, its name, and its arguments: a author, l layer, m another layer,
     * r area, n area or none, B box, x axis, t line, v value, b boolean, u rule, k kind, q square,
     * T time, w width, e version, s side, p piece, z least size, g length.
     */
    private static final String[] CALL_KINDS = {
        "24 begin a", "30 paint l n B", "6 split l r r x t", "6 merge l r r", "14 setValue l r v",
        "3 setDivides l b", "8 sign u", "14 keep", "3 drop", "2 addRule k l m", "5 broken u",
        "3 leastBroken", "4 areaAt l q", "5 areaThen l q T", "6 authorOf l q T", "4 size l r",
        "8 value l r", "4 rim l r", "4 border l r r", "4 distance l r r", "4 nearest l r",
        "4 belt l r w", "2 checkOut l B", "16 change e q n", "4 conflicts e", "5 clashes e",
        "5 reconcile e s", "4 pieces l m", "5 pieceSize l m p", "5 parent l m p b",
        "4 match l r m", "4 matchKind l r m", "5 coarse l z r", "4 coarseAreas l z",
        "10 name l r g", "10 placeOf l r", "3 values l", "2 covered l", "3 meanPiece l m",
        "2 isSound"};

    private static final List<String> drawn = new ArrayList<>();
    private static final Map<String, Method> own = methods(Overlayer.class);
    private static final Map<String, Method> model = methods(HouseModel.class);
    private static final Map<String, Integer> answers = new TreeMap<>();
    private static long seed;
    private static int playground;
    private static int areas;
    private static int lastLayer;
    private static int time;

    public static void main(String[] args) {
        for (String kind : CALL_KINDS) {
            int times = Integer.parseInt(kind.substring(0, kind.indexOf(' ')));
            for (int each = 0; each < times; each++) {
                drawn.add(kind.substring(kind.indexOf(' ') + 1));
            }
        }
        int wrong = 0;
        for (int run = 1; run <= RUNS; run++) {
            wrong += isAlike(run) ? 0 : 1;
        }
        int unmet = countUnmet();
        System.out.println((RUNS - wrong) + " passed, " + (wrong + unmet) + " failed");
        System.exit(wrong + unmet == 0 ? 0 : 1);
    }

    private static boolean isAlike(int run) {
        seed = 7919L * run;
        playground = 3 + draw(14);
        areas = 2 + draw(9);
        Overlayer house = new Overlayer();
        HouseModel plain = new HouseModel();
        for (int call = 0; call < CALLS; call++) {
            String[] words = drawn.get(draw(drawn.size())).split(" ");
            time = plain.time();
            Object[] arguments = arguments(words);
            Object want = answer(model.get(words[0]), plain, arguments);
            Object got = answer(own.get(words[0]), house, arguments);
            boolean isThrown = want instanceof Class;
            answers.merge(words[0] + (isThrown ? " " + want : ""), 1, Integer::sum);
            if (!want.equals(got)) {
                System.out.println("run " + run + ", call " + call + ": " + words[0]
                        + Arrays.toString(arguments) + " answered " + got + ", due is " + want);
                return false;
            }
        }
        return true;
    }

    /** Each call must have answered in some run, and thrown each exception that it names. */
    private static int countUnmet() {
        int unmet = 0;
        for (Method method : own.values()) {
            List<String> kinds = new ArrayList<>(List.of(method.getName()));
            for (Class<?> thrown : method.getExceptionTypes()) {
                kinds.add(method.getName() + " " + thrown);
            }
            for (String kind : kinds) {
                if (!answers.containsKey(kind)) {
                    unmet++;
                    System.out.println("no run met: " + kind);
                }
            }
        }
        return unmet;
    }

    private static Map<String, Method> methods(Class<?> house) {
        Map<String, Method> methods = new TreeMap<>();
        for (Method method : house.getDeclaredMethods()) {
            if (java.lang.reflect.Modifier.isPublic(method.getModifiers())) {
                methods.put(method.getName(), method);
            }
        }
        return methods;
    }

    private static Object answer(Method method, Object house, Object[] arguments) {
        try {
            return method.invoke(house, arguments);
        } catch (InvocationTargetException thrown) {
            return thrown.getCause().getClass();
        } catch (IllegalAccessException wrong) {
            throw new IllegalStateException(wrong);
        }
    }

    private static int draw(int bound) {
        seed = seed * 6364136223846793005L + 1442695040888963407L;
        return (int) ((seed >>> 33) % bound);
    }

    private static Object[] arguments(String[] words) {
        List<Object> arguments = new ArrayList<>();
        for (int word = 1; word < words.length; word++) {
            if (words[word].equals("B")) {
                addBox(arguments);
            } else {
                arguments.add(argument(words[word].charAt(0)));
            }
        }
        return arguments.toArray();
    }

    private static void addBox(List<Object> arguments) {
        int x = draw(playground);
        int y = draw(playground);
        int wrong = draw(100);
        arguments.add(wrong == 0 ? -1 : wrong == 1 ? 16 : x);
        arguments.add(wrong == 2 ? -1 : wrong == 3 ? 16 : y);
        arguments.add(wrong == 4 ? 0 : wrong == 5 ? 17 - x : 1 + draw(16 - x) / (1 + draw(3)));
        arguments.add(wrong == 6 ? 0 : wrong == 7 ? 17 - y : 1 + draw(16 - y) / (1 + draw(3)));
    }

    private static Object argument(char kind) {
        switch (kind) {
            case 'a':
                return number(0, 5);
            case 'l':
                lastLayer = number(0, 2);
                return lastLayer;
            case 'm':
                return draw(25) == 0 ? number(0, 2) : (lastLayer + 1 + draw(2)) % 3;
            case 'r':
                return draw(6) == 0 ? number(0, 9) : draw(areas);
            case 'n':
                return draw(8) == 0 ? -1 : draw(40) == 0 ? -2 : draw(40) == 0 ? 10 : draw(areas);
            case 'x':
                return "xyxyxyxyxyz".charAt(draw(11));
            case 't':
                return draw(30) == 0 ? number(0, 15) : draw(playground);
            case 'v':
                return number(0, 9999);
            case 'b':
                return draw(2) == 0;
            case 'u':
                return draw(8) - 1;
            case 'k':
                return "inainainax".charAt(draw(10));
            case 'q':
                return draw(4) == 0 ? number(0, 255) : 16 * draw(playground) + draw(playground);
            case 'T':
                return draw(2) == 0 ? time : number(0, time);
            default:
                return rareArgument(kind);
        }
    }

    private static Object rareArgument(char kind) {
        switch (kind) {
            case 'w':
                return draw(2) == 0 ? number(1, 4) : number(1, 30);
            case 'e':
                return draw(40) == 0 ? -1 : draw(40) == 0 ? 3 : draw(3);
            case 's':
                return "vlvlvlvlx".charAt(draw(9));
            case 'p':
                return draw(3) == 0 ? number(0, 255) : draw(12);
            case 'z':
                return draw(2) == 0 ? number(1, 20) : number(1, 256);
            case 'g':
                return number(0, 6);
            default:
                throw new IllegalStateException("no such kind of argument");
        }
    }

    /** A number of a range, and now and then one beside it or far from it. */
    private static int number(int lowest, int highest) {
        switch (draw(60)) {
            case 0:
                return lowest - 1;
            case 1:
                return highest + 1;
            case 2:
                return draw(2) == 0 ? Integer.MIN_VALUE : Integer.MAX_VALUE;
            case 3:
                return highest;
            case 4:
                return lowest;
            default:
                return lowest + draw(highest - lowest + 1);
        }
    }
}
