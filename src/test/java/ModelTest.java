import java.util.Random;

/** Runs of calls, always the same ones, on KinderTowns and on PlainTowns: all answers are the same. */
public final class ModelTest {
    private static final int RUNS = 160;
    private static final int CALLS = Calls.MOST;
    private static final int[] EXTREMES = {Integer.MIN_VALUE, -2147483647, -64, -5, -4, -1, 64, 1 << 16, Integer.MAX_VALUE};
    private static final Due DUE = new Due();

    private final Random random;
    private final KinderTowns real = new KinderTowns();
    private final PlainTowns plain = new PlainTowns();
    private final String run;
    // Few goods, persons and pieces make the orders of a run meet each other.
    private final int goods;
    private final int persons;
    private final int pieces;
    private final int wrongs;
    private int calls;

    private ModelTest(int seed) {
        random = new Random(seed);
        run = "run " + seed;
        goods = 1 + random.nextInt(seed % 2 == 0 ? 2 : 6);
        persons = 1 + random.nextInt(10);
        pieces = seed % 3 == 0 ? 6 : seed % 3 == 1 ? 25 : 99;
        wrongs = seed % 4 == 0 ? 4 : 40;
    }

    public static void main(String[] args) {
        for (int seed = 0; seed < RUNS; seed++) {
            new ModelTest(seed).play();
        }
        DUE.end();
    }

    private void play() {
        int towns = 1 + random.nextInt(5);
        for (int town = 0; town < towns; town++) {
            call("town");
        }
        while (calls < CALLS) {
            int kind = random.nextInt(100);
            if (kind < 45) {
                changeCall();
            } else if (kind < 88) {
                askingCall();
            } else {
                textCalls();
            }
        }
    }

    private void changeCall() {
        int kind = random.nextInt(40);
        int[] townAndTown = {town(), town()};
        if (kind < 8) {
            call("deliver", town(), good(), some(1 + random.nextInt(pieces)));
        } else if (kind < 22) {
            call("order", town(), person(), good(), some(1 + random.nextInt(pieces)));
        } else if (kind < 26) {
            call("cancel", town(), event());
        } else if (kind < 30) {
            call("meet", townAndTown);
        } else if (kind < 34) {
            call("hear", townAndTown);
        } else if (kind < 37) {
            call("rule", some(random.nextInt(3)));
        } else if (kind < 39) {
            call("undo");
        } else {
            call("town");
        }
    }

    private void askingCall() {
        switch (random.nextInt(12)) {
            case 0: call("eventOf", event(), some(random.nextInt(9))); break;
            case 1: call("thinks", town(), event()); break;
            case 2: call("townOf", town(), some(random.nextInt(8))); break;
            case 3: call("goodOf", town(), good(), some(random.nextInt(4))); break;
            case 4: call("lookedAt", town(), good(), some(random.nextInt(12))); break;
            case 5: call("personOf", town(), person(), some(random.nextInt(4))); break;
            case 6: call("unheard", town(), town()); break;
            case 7: call("count", some(random.nextInt(11))); break;
            case 8: call("would", town(), town(), some(random.nextInt(3))); break;
            case 9: call("wouldRule", some(random.nextInt(3))); break;
            case 10: call("kindest", some(random.nextInt(2))); break;
            default: call("rounds");
        }
    }

    private void textCalls() {
        if (random.nextInt(4) == 0) {
            call("clearText");
        }
        StringBuilder text = new StringBuilder();
        int commands = random.nextInt(5);
        for (int command = 0; command < commands; command++) {
            text.append(command());
        }
        if (random.nextInt(12) == 0 && text.length() > 0) {
            text.setCharAt(random.nextInt(text.length()), ";,0123456789docmhrx ~".charAt(random.nextInt(21)));
        }
        for (int index = 0; index < text.length(); index++) {
            call("type", text.charAt(index));
        }
        call("fault", random.nextInt(2));
        if (random.nextInt(20) == 0) {
            call("type", some(32));
        }
        if (random.nextInt(3) > 0) {
            call("play");
            call("clearText");
        }
    }

    private String command() {
        switch (random.nextInt(6)) {
            case 0: return "d" + digits(towns()) + "," + digits(goods) + "," + digits(pieces + 1) + ";";
            case 1: return "o" + digits(towns()) + "," + digits(persons) + "," + digits(goods) + "," + digits(pieces + 1) + ";";
            case 2: return "c" + digits(towns()) + "," + digits(events() + 2) + ";";
            case 3: return "m" + digits(towns()) + "," + digits(towns()) + ";";
            case 4: return "h" + digits(towns()) + "," + digits(towns()) + ";";
            default: return "r" + digits(3) + ";";
        }
    }

    private String digits(int end) {
        int number = random.nextInt(25) == 0 ? random.nextInt(110) : random.nextInt(end);
        return number < 10 && random.nextInt(4) == 0 ? "0" + number : "" + number;
    }

    private int towns() {
        return Math.max(1, plain.now.clocks.size());
    }

    private int events() {
        return plain.now.events.size();
    }

    private int town() {
        return some(random.nextInt(towns()));
    }

    private int good() {
        return some(random.nextInt(goods));
    }

    private int person() {
        return some(random.nextInt(persons));
    }

    private int event() {
        return some(random.nextInt(events() + 1));
    }

    /** The number, or now and then one that may be wrong. */
    private int some(int number) {
        if (random.nextInt(wrongs) > 0) {
            return number;
        }
        return random.nextInt(3) == 0 ? EXTREMES[random.nextInt(EXTREMES.length)] : random.nextInt(110) - 5;
    }

    private void call(String name, int... a) {
        if (calls == CALLS) {
            return;
        }
        calls++;
        DUE.is(run + " call " + calls + " " + name + java.util.Arrays.toString(a), Calls.on(real, name, a), plain.call(name, a));
    }
}
