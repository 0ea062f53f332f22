import java.util.Random;

/** What holds of all calls: any numbers in any state, the 512th call, and the same answers to the same calls. */
public final class EdgeCallsTest {
    private static final int[] NUMBERS = {Check.MIN, Check.MIN + 1, -1500, -104, -100, -41, -2, -1, 0, 0, 0, 1, 1, 2, 3, 4, 5,
        6, 7, 8, 9, 10, 19, 20, 21, 29, 30, 31, 39, 40, 41, 59, 60, 61, 149, 150, 151, 1480, 1499, 1500, 1501,
        Check.MAX - 1, Check.MAX};
    private static final String[] TEXTS = {"", "a", "(g)", "Ky'(fgx g.)e(c3h,z) a", "(efgfe~z::)", ")", "(g..)",
        "(" + "g".repeat(150) + ",".repeat(30) + "zc1axay".repeat(20) + ")", "a ".repeat(60), "(z)".repeat(21),
        "(f4azc1m)", "a".repeat(200)};

    public static void main(String[] args) {
        anyCall();
        lastCall();
        askingChangesNothing();
        Check.finish();
    }

    private static int number(Random random) {
        return random.nextInt(20) == 0 ? random.nextInt() : NUMBERS[random.nextInt(NUMBERS.length)];
    }

    private static int anyCall(Chant x, Random random) {
        int a = number(random);
        int b = number(random);
        int c = number(random);
        switch (random.nextInt(18)) {
            case 0:
                return x.feed(a, b, c, number(random), number(random));
            case 1:
                return x.end(a);
            case 2:
                return x.read();
            case 3:
                return x.place();
            case 4:
                return x.syllable(a, b);
            case 5:
                return x.note(a, b);
            case 6:
                return x.neume(a, b);
            case 7:
                return x.bar(a, b);
            case 8:
                return x.guide(a);
            case 9:
                return x.mode(a);
            case 10:
                return x.tone(a);
            case 11:
                return x.point(a, random.nextBoolean());
            case 12:
                return x.fresh();
            case 13:
                return x.half(a, b);
            case 14:
                return x.sung(a, b, c);
            case 15:
                return x.write();
            case 16:
                return x.at(a);
            default:
                return x.count(a);
        }
    }

    /** A run of calls that two objects answer alike; none throws, or the test would end here. */
    private static void anyCall() {
        Check.promise(1, "No call throws, whatever its numbers and the state; the same calls give the same answers");
        for (int run = 0; run < 2000; run++) {
            Chant x = new Chant();
            Chant y = new Chant();
            Random random = new Random(run);
            String text = TEXTS[run % TEXTS.length];
            Check.due("read()", Check.read(x, text), Check.read(y, text));
            for (int i = run % 50; i > 0; i--) {
                boolean accent = random.nextInt(4) == 0;
                Check.due("point()", x.point(i % 2, accent), y.point(i % 2, accent));
            }
            Random again = new Random(run);
            Random alike = new Random(run);
            while (x.calls() < Chant.CALLS) {
                Check.due("call " + x.calls() + " of run " + run, anyCall(x, again), anyCall(y, alike));
            }
        }
    }

    private static void lastCall() {
        Check.promise(1, "An object is used for at most 512 calls: the 512th is answered as any other");
        String[] names = {"feed", "end", "read", "count", "note", "write", "at", "point", "tone"};
        int[] wants = {20, 2, 1, 1, 9, 4, 'a', 2, 5};
        for (int last = 0; last < names.length; last++) {
            Chant x = Check.of("a(j)");
            x.write();
            x.point(0, true);
            x.tone(5);
            Check.feed(x, last == 2 ? "(g)" : "ab");
            if (last == 0) {
                x.end(0);
            }
            while (x.calls() < Chant.CALLS - 1) {
                x.count(0);
            }
            Check.due("the 512th call, " + names[last], lastCall(x, last), wants[last]);
            Check.due("calls", x.calls(), 512);
        }
    }

    private static int lastCall(Chant x, int which) {
        switch (which) {
            case 0:
                return x.feed(0, 0, 0, 0, 0);
            case 1:
                return x.end(2);
            case 2:
                return x.read();
            case 3:
                return x.count(1);
            case 4:
                return x.note(0, 0);
            case 5:
                return x.write();
            case 6:
                return x.at(0);
            case 7:
                return x.point(0, false);
            default:
                return x.tone(1);
        }
    }

    private static void askingChangesNothing() {
        Check.promise(1, "Calls that ask change nothing, answered or refused");
        Chant x = Check.busy();
        String before = Check.state(x);
        for (int i = -2; i < 5; i++) {
            x.place();
            x.syllable(i, 1);
            x.syllable(0, i);
            x.note(i, 1);
            x.note(0, i);
            x.neume(i, 1);
            x.neume(0, i);
            x.bar(i, 1);
            x.bar(0, i);
            x.guide(i);
            x.mode(i);
            x.half(i, 0);
            x.half(0, i);
            x.sung(i, 0, 0);
            x.sung(0, i, 1);
            x.sung(0, 0, i);
            x.at(i);
            x.count(i);
        }
        Check.due("the state behind them", Check.state(x), before);
        Check.tapeIs(x, "AB");
    }
}
