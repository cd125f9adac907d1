import java.util.ArrayList;
import java.util.List;
import java.util.Random;

/** Draws calls by a fixed seed: mostly such as change or ask something, now and then one at or beyond an edge. */
final class Caller {
    private static final int[] ODD = {Integer.MIN_VALUE, -3, -2, -1, 0, 1, 5, 10, 13, 20, 21, 40, 50, 51, 60, 101,
        200, 300, 301, 4096, 10001, Integer.MAX_VALUE};

    private final Random random;
    /** How many kinds of source, thing and mark are drawn from: few give many repeats and deep nodes. */
    private final int sources;
    private final int things;
    private final int markKinds;
    private final int longestPass;
    private final int asking;
    /** What most changes of the run are, so that its room is used up or its sum grows; empty for an even run. */
    private final String flood;
    private final List<int[]> cries = new ArrayList<>();
    private int now;
    private int alarms;
    private int silences;
    private int latestCase;

    Caller(long seed) {
        this.random = new Random(seed);
        String[] floods = {"", "", "alarm", "tie", "silence", "murmur"};
        this.flood = floods[(int) (seed % floods.length)];
        this.sources = 1 + random.nextInt(10);
        this.things = 1 + random.nextInt(flood.equals("murmur") ? 3 : 40);
        this.markKinds = 1 + random.nextInt(seed % 3 == 0 ? 8 : 2);
        int[] passes = {1, 3, 12, 40, 1000};
        this.longestPass = passes[random.nextInt(passes.length)];
        this.asking = flood.equals("alarm") ? 15 : 20 + random.nextInt(60);
    }

    /** Hears what a call was answered, since later calls ask for what is there. */
    void hear(Call call, int answer) {
        if (call.name.equals("alarm") && answer >= 0) {
            alarms = Math.max(alarms, answer + 1);
            cries.add(call.args);
        } else if (call.name.equals("silence") && answer >= 0) {
            silences = answer;
        } else if (call.name.equals("pass") && answer >= 0) {
            now = answer;
        } else if (call.name.equals("order") && answer >= 0) {
            latestCase = answer;
        }
    }

    Call next() {
        return random.nextInt(100) < asking ? question() : change();
    }

    private int number(int bound) {
        return random.nextInt(40) == 0 ? ODD[random.nextInt(ODD.length)] : random.nextInt(Math.max(1, bound));
    }

    private int someMarks() {
        int marks = 0;
        for (int i = 0; i < 4; i++) {
            marks = marks * 8 + random.nextInt(markKinds);
        }
        return random.nextInt(40) == 0 ? number(5000) : marks;
    }

    private Call change() {
        return random.nextInt(3) == 0 ? evenChange() : switch (flood) {
            case "alarm" -> someAlarm();
            case "tie" -> alarms < 20 ? someAlarm() : someTie();
            case "silence" -> silences < 30 || random.nextInt(8) == 0 ? someSilence() : someAlarm();
            default -> evenChange();
        };
    }

    private Call evenChange() {
        return switch (random.nextInt(16)) {
            case 0, 1 -> somePass();
            case 2, 3, 4, 5, 6, 7, 8 -> someAlarm();
            case 9 -> random.nextInt(4) == 0 ? someSilence() : new Call("count", 4);
            case 10 -> new Call("set", number(3), random.nextBoolean() ? 1 + random.nextInt(5) : number(51));
            case 11, 12, 13, 14 -> new Call("verdict", number(alarms), number(10), random.nextInt(3) == 0 ? 0 : 1);
            default -> someTie();
        };
    }

    private Call somePass() {
        if (now >= 9000 && random.nextInt(4) == 0) {
            return new Call("pass", 10000 - now + random.nextInt(2));
        }
        return new Call("pass", random.nextInt(20) == 0 ? number(1001) : 1 + random.nextInt(longestPass));
    }

    private Call someAlarm() {
        boolean isQuiet = flood.equals("murmur") ? random.nextInt(50) != 0 : random.nextBoolean();
        int worth = isQuiet ? 1 + random.nextInt(19) : number(101);
        if (!cries.isEmpty() && random.nextInt(3) == 0) {
            int[] like = cries.get(random.nextInt(cries.size()));
            return new Call("alarm", like[0], like[1], like[2], worth);
        }
        return new Call("alarm", number(sources), number(things), someMarks(), worth);
    }

    private Call someTie() {
        return new Call("tie", number(alarms), number(alarms), random.nextInt(2));
    }

    private Call someSilence() {
        int from = Math.max(0, now + random.nextInt(30) - 10);
        return new Call("silence", number(sources), from, from + number(20));
    }

    private Call question() {
        int minutes = random.nextBoolean() ? number(60) : number(301);
        return switch (random.nextInt(12)) {
            case 0, 1 -> new Call("told", number(alarms), number(13));
            case 2 -> new Call("node", number(5), someMarks(), number(3));
            case 3 -> new Call("odds", number(alarms), number(6));
            case 4 -> new Call("order", number(1 + Math.min(alarms, things)));
            case 5, 6 -> new Call("caseOf", random.nextInt(4) == 0 ? number(alarms) : latestCase,
                    random.nextBoolean() ? number(4) : 10 + number(5));
            case 7 -> new Call("slow", number(things));
            case 8 -> new Call("plan", minutes, number(random.nextBoolean() ? 18 : 6) - 1);
            case 9 -> new Call("worth", minutes, number(3));
            case 10 -> new Call("source", number(sources), number(7));
            default -> new Call("count", number(6));
        };
    }
}
