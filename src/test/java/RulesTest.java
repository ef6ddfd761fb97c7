import java.io.IOException;
import java.lang.reflect.Field;
import java.lang.reflect.Method;
import java.lang.reflect.Modifier;
import java.nio.file.Files;
import java.nio.file.Path;
import java.util.Random;
import java.util.Set;
import java.util.TreeSet;
import java.util.regex.Pattern;

/** The public face, rules of LANGUAGE.md that can be seen, and runs of wild calls. */
public final class RulesTest {
    private static final Due DUE = new Due();

    public static void main(String[] args) throws Exception {
        face();
        names();
        words();
        wildCalls();
        last512thCall();
        roomOfCalls();
        DUE.end();
    }

    private static void face() {
        Set<String> want = Set.of("write(long,int)int", "erase()int", "fault()int", "river()int",
                "reach(int,int)int", "wind(int,int,int)int", "barge(int,int)int", "as(int,int)int",
                "yards(int,int,int,int)int", "cord(int,int)int", "go(int)int", "at(int,int)int",
                "knots(int)int", "keep(int)int", "back(int)int", "soonest(int,int,int)int",
                "clear(int,int,int)int", "odds(int,int,int,int)long", "sight(int,int,int,int)long",
                "blind(int,int,int,int)long", "worth(int,int,int,int)long", "found(int,int)int",
                "first(int,int,int)int", "books(int,int)int", "count(int)int");
        Set<String> got = new TreeSet<>();
        for (Method m : KiteBarges.class.getDeclaredMethods()) {
            if (!Modifier.isPrivate(m.getModifiers())) {
                DUE.holds(m + " is public", Modifier.isPublic(m.getModifiers()));
                StringBuilder text = new StringBuilder(m.getName()).append('(');
                for (Class<?> c : m.getParameterTypes()) {
                    text.append(text.charAt(text.length() - 1) == '(' ? "" : ",").append(c.getName());
                }
                got.add(text.append(')').append(m.getReturnType().getName()).toString());
            }
        }
        DUE.holds("the methods are those of the document: " + got, got.equals(want));
        Set<String> constants = new TreeSet<>();
        for (Field f : KiteBarges.class.getDeclaredFields()) {
            if (!Modifier.isPrivate(f.getModifiers())) {
                DUE.holds(f + " is public, static, final",
                        (f.getModifiers() & 25) == (Modifier.PUBLIC | Modifier.STATIC | Modifier.FINAL));
                constants.add(f.getName());
            }
        }
        DUE.holds("the constants are those of the document: " + constants,
                constants.equals(Set.of("NONE", "UNKNOWN", "OUTSIDE", "NOT", "FULL")));
        DUE.is("one public constructor", KiteBarges.class.getConstructors().length, 1);
        DUE.is("no other", KiteBarges.class.getDeclaredConstructors().length, 1);
        DUE.holds("the class is final", Modifier.isFinal(KiteBarges.class.getModifiers()));
    }

    private static void names() {
        Set<String> open = new TreeSet<>();
        for (Method m : KiteBarges.class.getDeclaredMethods()) {
            if (Modifier.isPublic(m.getModifiers())) {
                open.add(m.getName());
            }
        }
        int classes = 1;
        for (Class<?> c : KiteBarges.class.getDeclaredClasses()) {
            classes++;
            DUE.holds(c + " is static", Modifier.isStatic(c.getModifiers()));
            int fields = 0;
            for (Field f : c.getDeclaredFields()) {
                fields += Modifier.isStatic(f.getModifiers()) ? 0 : 1;
            }
            DUE.holds(c + " has at most twenty fields", fields <= 20);
            for (Method m : c.getDeclaredMethods()) {
                DUE.holds(m + " bears a name of its own", !open.contains(m.getName()));
                DUE.holds(m + " takes at most seven", m.getParameterCount() <= 7);
            }
        }
        DUE.holds("at most twelve classes", classes <= 12);
    }

    private static void words() throws IOException {
        String source = Files.readString(Path.of("src/main/java/KiteBarges.java"));
        String code = source.replaceAll("(?s)/\\*.*?\\*/", " ").replaceAll("//[^\n]*", " ");
        String[] refused = {"throw", "try", "catch", "synchronized", "assert", "package", "var", "protected",
            "hashCode", "toString", "Exact\\b.*", "System\\.(?!arraycopy)\\w+", "Thread", "Random", "Object"};
        for (String word : refused) {
            DUE.holds("no " + word, !Pattern.compile("\\b" + word + "\\b").matcher(code).find());
        }
        DUE.holds("no lambda, no method reference", !code.contains("->") && !code.contains("::"));
        DUE.holds("one import", code.split("\\bimport\\b").length == 2 && code.contains("import java.util.Arrays;"));
        DUE.holds("signs up to 127", source.chars().allMatch(c -> c < 128));
        methodLengths(code);
    }

    private static void methodLengths(String code) {
        int depth = 0;
        int line = 0;
        int from = 0;
        int methodDepth = -1;
        for (String text : code.split("\n")) {
            line++;
            if (methodDepth < 0 && text.matches("\\s+[\\w\\[\\] ]*\\w\\(.*\\) \\{")) {
                methodDepth = depth;
                from = line;
            }
            depth += text.chars().filter(c -> c == '{').count() - text.chars().filter(c -> c == '}').count();
            if (methodDepth >= 0 && depth == methodDepth) {
                DUE.holds("the method at line " + from + " has at most sixty lines", line - from < 60);
                methodDepth = -1;
            }
        }
    }

    private static int wild(Random random, int least, int most) {
        switch (random.nextInt(40)) {
            case 0: return Integer.MIN_VALUE;
            case 1: return Integer.MAX_VALUE;
            case 2: return least - 1;
            case 3: return most + 1;
            default: return least + random.nextInt(most - least + 1);
        }
    }

    /** No call throws, whatever its arguments, behind the 512th call, too; the same calls give the same answers. */
    private static void wildCalls() {
        for (int seed = 0; seed < 60; seed++) {
            long[] answers = new long[512];
            for (int time = 0; time < 2; time++) {
                Random random = new Random(seed);
                KiteBarges x = new KiteBarges();
                for (int i = 0; i < 512; i++) {
                    if (random.nextInt(20) == 0) {
                        Due.write(x, Texts.wild(random));
                        if (random.nextInt(2) == 0) {
                            x.erase();
                        }
                        x.river();
                    }
                    long answer = wildCall(x, random);
                    if (time == 0) {
                        answers[i] = answer;
                    } else {
                        DUE.is("the same call again", answer, answers[i]);
                    }
                }
            }
        }
    }

    private static long wildCall(KiteBarges x, Random r) {
        int barge = wild(r, 0, 3);
        int reach = wild(r, 0, 7);
        int layer = wild(r, 0, 5);
        int hour = wild(r, 0, 23);
        int n = wild(r, 0, 8);
        int blind = wild(r, 0, 4);
        int p = wild(r, 0, 10);
        switch (r.nextInt(25)) {
            case 0: return x.write(r.nextLong(), wild(r, 1, 8));
            case 1: return x.erase();
            case 2: return x.fault();
            case 3: return x.river();
            case 4: return x.reach(reach, wild(r, 0, 2));
            case 5: return x.wind(layer, hour, wild(r, 0, 1));
            case 6: return x.barge(barge, wild(r, 0, 3));
            case 7: return x.as(barge, wild(r, 0, 4));
            case 8: return x.yards(barge, reach, layer, hour);
            case 9: return x.cord(barge, layer);
            case 10: return x.go(wild(r, 1, 4));
            case 11: return x.at(barge, wild(r, 0, 4));
            case 12: return x.knots(barge);
            case 13: return x.keep(wild(r, 0, 1));
            case 14: return x.back(wild(r, 0, 1));
            case 15: return x.soonest(barge, hour, wild(r, -2, 23));
            case 16: return x.clear(barge, wild(r, 0, 3), wild(r, -2, 23));
            case 17: return x.odds(barge, n, p, wild(r, 0, 1));
            case 18: return x.sight(barge, n, p, wild(r, 0, 1));
            case 19: return x.blind(barge, blind, p, wild(r, 0, 1));
            case 20: return x.worth(barge, blind, p, wild(r, 0, 1));
            case 21: return x.found(reach, layer);
            case 22: return x.first(barge, reach, layer);
            case 23: return x.books(barge, wild(r, 0, 1));
            default: return x.count(wild(r, 0, 5));
        }
    }

    /** "An object is used for at most 512 calls": the last of them is answered as the first. */
    private static void last512thCall() {
        KiteBarges x = new KiteBarges();
        for (int pair = 0; pair < 255; pair++) {
            x.write('x', 1);
            x.erase();
        }
        DUE.is("the 511th call", x.write('d' | 'r' << 8 | 'y' << 16, 3), 3);
        DUE.is("the 512th call", x.fault(), -1);
    }

    /** One room holds all that the calls of a run make: an object is small, and its calls make nothing. */
    private static void roomOfCalls() {
        com.sun.management.ThreadMXBean threads =
                (com.sun.management.ThreadMXBean) java.lang.management.ManagementFactory.getThreadMXBean();
        long self = Thread.currentThread().getId();
        for (int seed = 0; seed < 40; seed++) {
            Random random = new Random(seed);
            String[] texts = Texts.river(random, 8);
            threads.getThreadAllocatedBytes(self);
            long begin = threads.getThreadAllocatedBytes(self);
            KiteBarges x = new KiteBarges();
            long made = threads.getThreadAllocatedBytes(self);
            Due.tell(x, texts);
            long told = threads.getThreadAllocatedBytes(self);
            for (int i = 0; i < 400; i++) {
                wildCall(x, random);
            }
            long end = threads.getThreadAllocatedBytes(self);
            DUE.holds("an object takes " + (made - begin) + " bytes", made - begin < 100_000);
            DUE.holds("texts make " + (told - made) + " bytes", told - made < 10_000);
            DUE.holds("400 calls make " + (end - told) + " bytes", end - told < 10_000);
        }
    }
}
