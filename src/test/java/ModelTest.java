import java.lang.reflect.InvocationTargetException;
import java.lang.reflect.Method;
import java.util.ArrayList;
import java.util.Arrays;
import java.util.LinkedHashMap;
import java.util.List;
import java.util.Map;
import java.util.Random;
import java.util.TreeMap;

/** Random runs on a TideDesk and a DeskModel: each answer must be the same. */
public final class ModelTest {
    // An object is used for 512 calls at most: what is asked of the model alone is not counted.
    private static final int CALLS = 512;
    private static final int[] AIRS = {0, 1 << 31, 1065353216, -1082130432, 2143289344, 2143289345, -1, 0x7f800000,
        0xff800000, 1, 0x80000001, 1073741824, 0x41a00000, 0x41a00001, 0xc1a00000, 0xc1a00001, 0x3f000000};

    // One letter for each argument: see argument().
    private static final String[] BUILD = {
        "clock n", "mean s m", "wave s z v p", "wave s z v p", "wave s z v p", "survey s d", "survey s d", "survey s d",
        "gauge s f e", "gauge s f e", "reading g h a", "reading g h a", "reading g h a", "reading g h a",
        "reading g h a", "shoal s b l", "shoal s b l", "dredge o d b", "waters s t N", "waters s f N", "tide s H a",
        "tide s H a", "ship k D P x w w", "ship k D P x w w", "ship k D P x w w", "fleet F S c", "join F i w",
        "join F i w", "leg r o q M", "leg r o q M", "leg r o q M", "leg r o q M", "clear r", "passage w r j", "passage w r j", "passage w r j",
        "sun u u"};
    private static final String[] LOOK = {
        "cos y", "height s t K", "force s t K", "out g B", "at g i", "air g i", "compare g i i", "rule R c",
        "surge g t", "surge g t", "lacking", "depth o t K", "water o t", "water o t", "found s i 2", "range s i",
        "spring s B", "stream s t", "stream s t", "ask w 5", "ask w 5", "asked", "trace T", "trace i", "as w k",
        "fleet F S c", "join F i w", "member F i", "move F i F i i", "move F i F i i", "shared F C", "clear r",
        "comes w r i t", "holds w r j", "holds w r j", "windows w r j C", "windows w r j L", "window i B", "wrong 2",
        "plan", "planned W 3", "planned W 3", "again W", "again W", "pass W", "pass W", "tries", "held 2", "count 9",
        "finding", "digest"};

    private final Random random;
    private final Map<String, Method> desk;
    private final Map<String, Method> model;
    private final Map<String, Map<String, Integer>> seen;
    private final List<String> story = new ArrayList<>();
    private boolean isSame = true;
    private TideDesk first;
    private DeskModel second;
    private int used;
    private int now;
    private int lastDistance;

    private ModelTest(long seed, Map<String, Map<String, Integer>> seen) {
        random = new Random(seed);
        desk = methods(TideDesk.class);
        model = methods(DeskModel.class);
        this.seen = seen;
    }

    private static Map<String, Method> methods(Class<?> c) {
        Map<String, Method> all = new LinkedHashMap<>();
        for (Method m : c.getDeclaredMethods()) {
            if (java.lang.reflect.Modifier.isPublic(m.getModifiers())) all.put(m.getName(), m);
        }
        return all;
    }

    private int upTo(int n) {
        return random.nextInt(n);
    }

    private int mostly(int often, int max) {
        return upTo(4) != 0 ? upTo(often) : upTo(max);
    }

    /** Mostly the number of one of those that there are. */
    private int ofThose(int what, int few) {
        int many = second.count(what);
        return upTo(25) == 0 || many == 0 ? upTo(42) - 1 : upTo(3) == 0 ? upTo(many) : upTo(Math.min(few, many));
    }

    private int someMoment() {
        switch (upTo(4)) {
            case 0: return upTo(2592000);
            case 1: return upTo(90000);
            case 2: return Math.max(0, Math.min(2591999, now + upTo(7200) - 3600));
            default: return upTo(4) * 86400 + upTo(3) + (upTo(2) == 0 ? 0 : 86398);
        }
    }

    private Object argument(char c) {
        if (c == 'B') return random.nextBoolean();
        if (upTo(150) == 0) {
            int[] wild = {-1, -2, Integer.MIN_VALUE, Integer.MAX_VALUE, 100000, 2592000, -100000, 70000, 43200, 201};
            return wild[upTo(wild.length)];
        }
        switch (c) {
            case 's': return mostly(2, 13);
            case 'm': return upTo(4) == 0 ? upTo(4003) - 2001 : upTo(400);
            case 'z': return upTo(8) == 0 ? upTo(10001) : upTo(3000);
            case 'v': return upTo(8) == 0 ? upTo(60002) : 500 + upTo(6000);
            case 'p': return upTo(65537);
            case 'd': return mostly(2, 31);
            case 'n': return Math.min(2592000, now + (upTo(3) == 0 ? upTo(100000) : upTo(3000)));
            case 'f': return mostly(8000, 100000);
            case 'e': return mostly(900, 7400);
            case 'g': return ofThose(2, 2);
            case 'h': return upTo(6) == 0 ? -32768 : upTo(10) == 0 ? upTo(65538) - 32769 : upTo(900) - 300;
            case 'a': return AIRS[upTo(AIRS.length)];
            case 'M': return upTo(3) != 0 ? 2143289344 : AIRS[upTo(AIRS.length)];
            case 'b': return upTo(6) == 0 ? upTo(6003) - 1001 : upTo(500) - 100;
            case 'l': return upTo(2) == 0 ? 0 : upTo(7202);
            case 'o': return ofThose(3, 3);
            case 't': return someMoment();
            case 'N': return upTo(202);
            case 'H': return upTo(15) - 7;
            case 'k': return upTo(20) == 0 ? 5 : upTo(2) == 0 ? 4 : upTo(4);
            case 'D': return upTo(8) == 0 ? upTo(3002) : upTo(500);
            case 'P': return upTo(8) == 0 ? 0 : upTo(3) == 0 ? upTo(3002) : 50 + upTo(900);
            case 'x': return upTo(4) == 0 ? upTo(2003) - 1001 : upTo(7) - 2;
            case 'w': return upTo(30) == 0 ? -1 : ofThose(5, 40);
            case 'F': return mostly(4, 5);
            case 'S': return upTo(7);
            case 'c': return upTo(11) - 1;
            case 'i': return upTo(3) == 0 ? upTo(42) - 1 : upTo(7) - 1;
            case 'r': return mostly(3, 7);
            case 'q': return lastDistance = upTo(6) == 0 ? upTo(50002) : upTo(5) == 0 ? 0 : Math.min(50000, lastDistance + upTo(3000));
            case 'j': return upTo(5) == 0 ? upTo(43201) : upTo(20) == 0 ? 43190 + upTo(10) : upTo(1000);
            case 'u': return upTo(86402);
            case 'K': return upTo(2) == 0 ? now : upTo(now + 2);
            case 'R': return upTo(4);
            case 'C': return upTo(122);
            case 'L': return 120;
            case 'T': return upTo(102);
            case 'W': return ofThose(6, 40);
            case 'y': return random.nextInt();
            default: return upTo(c - '0' + 1);
        }
    }

    private Object call(Map<String, Method> face, Object on, String name, Object[] args) {
        try {
            return face.get(name).invoke(on, args);
        } catch (InvocationTargetException e) {
            return "threw " + e.getCause();
        } catch (IllegalAccessException e) {
            throw new IllegalStateException(e);
        }
    }

    /** Whether all answers of a run were the same; prints the run, if not. */
    private boolean run(int seed) {
        first = new TideDesk();
        second = new DeskModel();
        if (seed % 2 == 0) layScene();
        if (seed % 20 == 0) useUpFindings();
        int build = seed % 3 * 60;
        while (isSame && used + 2 <= CALLS) {
            String[] from = story.size() < build || upTo(3) == 0 ? BUILD : LOOK;
            String[] parts = from[upTo(from.length)].split(" ");
            Object[] args = new Object[parts.length - 1];
            for (int i = 0; i < args.length; i++) args[i] = argument(parts[i + 1].charAt(0));
            play(parts[0], args);
        }
        return isSame;
    }

    /** Swift waves, gauges that were read a moment ago and routes that can be passed: what mere chance seldom lays. */
    private void layScene() {
        for (int station = 0; station < 2; station++) {
            play("mean", station, 150 + upTo(300));
            for (int w = 0; w < 1 + upTo(3); w++) play("wave", station, upTo(2500), 2000 + upTo(30000), upTo(65536));
            play("survey", station, 0);
            play("gauge", station, 0, 600);
        }
        play("clock", 6000 + upTo(600));
        for (int i = 0; i < 10; i++) play("reading", upTo(2), upTo(800) - 100, AIRS[upTo(AIRS.length)]);
        play("rule", 2, 1 + upTo(5));
        for (int station = 0; station < 2; station++) {
            play("waters", station, upTo(3000), 100 + upTo(101));
            for (int hour = -6; hour <= 6; hour += 2) play("tide", station, hour, AIRS[upTo(AIRS.length)]);
        }
        for (int i = 0; i < 4; i++) play("shoal", i % 2, upTo(400), i == 0 ? 0 : upTo(4) * 300);
        for (int kind = 0; kind < 5; kind++) {
            for (int i = 0; i < 2; i++) play("ship", kind, upTo(300), 100 + upTo(900), 1 + upTo(3), upTo(4), upTo(6));
        }
        for (int route = 0; route < 3; route++) {
            int distance = 0;
            for (int leg = 0; leg < 1 + upTo(4); leg++) {
                play("leg", route, upTo(4), distance, upTo(3) == 0 ? AIRS[upTo(AIRS.length)] : 2143289344);
                distance += upTo(4000);
            }
        }
        for (int i = 0; i < 8; i++) play("passage", upTo(10), upTo(3), upTo(60));
        play("plan");
    }

    private void useUpFindings() {
        play("shoal", 11, 0, 0);
        play("leg", 5, second.count(3) - 1, 0, 2143289344);
        play("ship", 1, 0, 100, 0, 0, 0);
        for (int i = 0; i < 25; i++) play("windows", second.count(5) - 1, 5, 0, 120);
    }

    private void play(String name, Object... args) {
        if (!isSame) return;
        Object got = call(desk, first, name, args);
        Object due = call(model, second, name, args);
        now = second.count(0);
        story.add(name + Arrays.toString(args) + " -> " + got);
        isSame = got.equals(due) && isStatusSame(story.size());
        used += 2;
        if (!isSame) {
            story.forEach(System.out::println);
            System.out.println("due is " + due);
        } else if (seen != null) {
            note(name, got);
        }
    }

    /** One thing at a time: a second call for each act. */
    private boolean isStatusSame(int turn) {
        switch (turn % 5) {
            case 0: return first.finding() == second.finding();
            case 1: return first.count(8) == second.count(8);
            case 2: return first.digest() == second.digest();
            case 3: return first.asked() == second.asked();
            default: return first.trace(turn / 5 % 100) == second.trace(turn / 5 % 100);
        }
    }

    private void note(String name, Object got) {
        long v = ((Number) got).longValue();
        String kind = v < -20 && v != -100000 || v >= 2 ? "other" : String.valueOf(v);
        if (v == 9221120237041090560L || v == 2143289344L) kind = "no number";
        seen.computeIfAbsent(name, k -> new TreeMap<>()).merge(kind, 1, Integer::sum);
    }

    public static void main(String[] args) {
        int runs = args.length > 0 ? Integer.parseInt(args[0]) : 1200;
        Map<String, Map<String, Integer>> seen = args.length > 1 ? new TreeMap<>() : null;
        for (int seed = 0; seed < runs; seed++) {
            if (!new ModelTest(seed, seen).run(seed)) {
                System.out.println("run " + seed + " is not as the model's");
                System.exit(1);
            }
        }
        if (seen != null) seen.forEach((name, kinds) -> System.out.println(name + " " + kinds));
        System.out.println("ModelTest: " + runs + " runs are as the model's");
    }
}
