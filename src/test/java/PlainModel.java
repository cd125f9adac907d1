import java.util.ArrayList;
import java.util.HashMap;
import java.util.List;
import java.util.Map;
import java.util.TreeMap;

/** The document written a second time, with no care for speed: nothing is kept that can be worked out anew. */
final class PlainModel {
    private static final class Cry {
        int number, came, source, thing, marks, worth, last, repeats;
        boolean silenced, capped;
        final Map<Integer, Boolean> verdicts = new HashMap<>();

        int state() {
            if (verdicts.size() < 2) {
                return 0;
            }
            int yes = 0;
            int no = 0;
            for (boolean is : verdicts.values()) {
                if (is) {
                    yes++;
                } else {
                    no++;
                }
            }
            return yes >= 2 ? 1 : no >= 2 ? 2 : 0;
        }

        boolean inCase() {
            return state() == 0 && !silenced && !capped;
        }
    }

    private final List<Cry> cries = new ArrayList<>();
    private final List<int[]> silences = new ArrayList<>();
    private final Map<List<Integer>, Boolean> ties = new HashMap<>();
    private int now, cap = 50, least = 3, tries;

    int pass(int n) {
        if (n < 1 || n > 1000 || now + n > 10000) {
            return -1;
        }
        return now += n;
    }

    int alarm(int source, int thing, int marks, int worth) {
        if (source < 0 || source > 9 || thing < 0 || thing > 39 || marks < 0 || marks > 4095
                || worth < 1 || worth > 100) {
            return -2;
        }
        Cry like = null;
        for (Cry c : cries) {
            if (c.source == source && c.thing == thing && c.marks == marks && c.inCase() && c.last + 10 >= now) {
                like = c;
            }
        }
        if (like != null) {
            like.repeats++;
            like.last = now;
            return like.number;
        }
        if (cries.size() == 200) {
            return -3;
        }
        Cry c = new Cry();
        c.number = cries.size();
        c.came = now;
        c.last = now;
        c.source = source;
        c.thing = thing;
        c.marks = marks;
        c.worth = worth;
        c.silenced = silences.stream().anyMatch(s -> s[0] == source && s[1] <= now && now <= s[2]);
        c.capped = !c.silenced && cries.stream().filter(o -> o.source == source && !o.silenced && !o.capped
                && o.came > now - 10).count() >= cap;
        cries.add(c);
        return c.number;
    }

    int silence(int source, int from, int to) {
        if (source < 0 || source > 9 || from < 0 || from > to || to > 10000 || silences.size() == 30) {
            return -1;
        }
        silences.add(new int[] {source, from, to});
        return silences.size();
    }

    boolean set(int what, int value) {
        if (what == 0 && 1 <= value && value <= 50) {
            cap = value;
        } else if (what == 1 && 1 <= value && value <= 20) {
            least = value;
        } else if (what == 2 && 0 <= value && value <= 5) {
            tries = value;
        } else {
            return false;
        }
        return true;
    }

    int verdict(int alarm, int looker, boolean is) {
        if (!has(alarm) || looker < 0 || looker > 9) {
            return -1;
        }
        Cry c = cries.get(alarm);
        if (c.state() != 0 || c.verdicts.containsKey(looker)) {
            return -1;
        }
        c.verdicts.put(looker, is);
        return c.state() == 0 ? 0 : 1;
    }

    boolean tie(int a, int b, boolean joined) {
        if (a == b || !has(a) || !has(b)) {
            return false;
        }
        List<Integer> pair = List.of(Math.min(a, b), Math.max(a, b));
        Boolean was = ties.get(pair);
        if (was != null && was == joined || was == null && ties.size() == 60) {
            return false;
        }
        ties.put(pair, joined);
        return true;
    }

    int told(int alarm, int what) {
        if (!has(alarm)) {
            return -1;
        }
        Cry c = cries.get(alarm);
        return switch (what) {
            case 0 -> c.came;
            case 1 -> c.source;
            case 2 -> c.thing;
            case 3 -> c.marks;
            case 4 -> c.worth;
            case 5 -> c.repeats;
            case 6 -> c.state();
            case 7 -> c.silenced ? 1 : 0;
            case 8 -> c.capped ? 1 : 0;
            case 9 -> score(c);
            case 10 -> depth(c);
            case 11 -> c.verdicts.size();
            case 12 -> caseNumber(c);
            default -> -1;
        };
    }

    int node(int d, int marks, int what) {
        if (d < 0 || d > 4 || marks < 0 || marks > 4095 || what < 0 || what > 2) {
            return -1;
        }
        int sum = 0;
        for (Cry c : cries) {
            int state = c.state();
            boolean counts = what == 0 ? state == 1 : what == 1 ? state != 0 : state == 0;
            if (counts && samePath(c.marks, marks, d)) {
                sum++;
            }
        }
        return sum;
    }

    int odds(int alarm, int what) {
        if (!has(alarm) || what < 0 || what > 5) {
            return -1;
        }
        Cry c = cries.get(alarm);
        int d = depth(c);
        int t = node(d, c.marks, 0);
        int n = node(d, c.marks, 1);
        int o = node(d, c.marks, 2);
        int upper = what < 2 ? (n == 0 ? 1 : t) : what < 4 ? t : t + o;
        int lower = what < 2 ? (n == 0 ? 2 : n) : n + o;
        for (int f = lower; f > 1; f--) {
            if (upper % f == 0 && lower % f == 0) {
                upper /= f;
                lower /= f;
            }
        }
        return what % 2 == 0 ? upper : lower;
    }

    int order(int k) {
        List<List<Cry>> all = ordered();
        return k < 0 || k >= all.size() ? -1 : all.get(k).get(0).number;
    }

    int caseOf(int number, int what) {
        for (List<Cry> each : ordered()) {
            if (each.get(0).number == number) {
                if (what >= 10 && what - 10 < each.size()) {
                    return each.get(what - 10).number;
                }
                return switch (what) {
                    case 0 -> each.size();
                    case 1 -> scoreOf(each);
                    case 2 -> minutesOf(each);
                    case 3 -> littleKnown(each) ? 1 : 0;
                    default -> -1;
                };
            }
        }
        return -1;
    }

    int slow(int thing) {
        int sum = 0;
        int greatest = 0;
        for (Cry c : cries) {
            if (c.thing == thing && c.inCase() && c.came > now - 200) {
                sum += score(c);
                greatest = Math.max(greatest, score(c));
            }
        }
        return sum > 30000 && greatest < 10000 ? sum : -1;
    }

    int plan(int minutes, int k) {
        if (minutes < 0 || minutes > 300) {
            return -1;
        }
        List<List<Cry>> taken = taken(minutes);
        if (k == -1) {
            return taken.size();
        }
        return k < 0 || k >= taken.size() ? -1 : taken.get(k).get(0).number;
    }

    int worth(int minutes, int what) {
        if (minutes < 0 || minutes > 300 || what < 0 || what > 2) {
            return -1;
        }
        List<List<Cry>> taken = taken(minutes);
        List<List<Cry>> others = ordered();
        others.removeAll(taken);
        int sum = 0;
        for (List<Cry> each : what == 1 ? others : taken) {
            sum += what == 2 ? minutesOf(each) : scoreOf(each);
        }
        return sum;
    }

    int source(int source, int what) {
        if (source < 0 || source > 9 || what < 0 || what > 6) {
            return -1;
        }
        int sum = 0;
        for (Cry c : cries) {
            boolean counts = switch (what) {
                case 0 -> true;
                case 1 -> c.repeats != 0;
                case 2 -> c.silenced;
                case 3 -> c.capped;
                case 4 -> c.state() == 1;
                case 5 -> c.state() == 2;
                default -> c.state() == 1 && (c.silenced || c.capped);
            };
            if (c.source == source && counts) {
                sum++;
            }
        }
        return sum;
    }

    int count(int what) {
        return switch (what) {
            case 0 -> now;
            case 1 -> cries.size();
            case 2 -> (int) cries.stream().filter(c -> c.state() == 0).count();
            case 3 -> ordered().size();
            case 4 -> silences.size();
            case 5 -> ties.size();
            default -> -1;
        };
    }

    private boolean has(int alarm) {
        return alarm >= 0 && alarm < cries.size();
    }

    private static boolean samePath(int a, int b, int d) {
        int[] weights = {512, 64, 8, 1};
        for (int i = 0; i < d; i++) {
            if (a / weights[i] % 8 != b / weights[i] % 8) {
                return false;
            }
        }
        return true;
    }

    private int depth(Cry c) {
        int deepest = 0;
        for (int d = 0; d <= 4; d++) {
            if (node(d, c.marks, 1) >= least) {
                deepest = d;
            }
        }
        return deepest;
    }

    private int score(Cry c) {
        int d = depth(c);
        int n = node(d, c.marks, 1);
        return n == 0 ? 500 * c.worth : 1000 * c.worth * node(d, c.marks, 0) / n;
    }

    private boolean pairs(Cry a, Cry b) {
        Boolean told = ties.get(List.of(Math.min(a.number, b.number), Math.max(a.number, b.number)));
        if (told != null) {
            return told;
        }
        return a.thing == b.thing && Math.abs(a.came - b.came) <= 20;
    }

    private int[] labels() {
        int[] label = new int[cries.size()];
        for (Cry c : cries) {
            label[c.number] = c.inCase() ? c.number : -1;
        }
        List<Cry> live = cries.stream().filter(Cry::inCase).toList();
        boolean changed = true;
        while (changed) {
            changed = false;
            for (Cry a : live) {
                for (Cry b : live) {
                    if (label[a.number] < label[b.number] && pairs(a, b)) {
                        label[b.number] = label[a.number];
                        changed = true;
                    }
                }
            }
        }
        return label;
    }

    private int caseNumber(Cry c) {
        return labels()[c.number];
    }

    private List<List<Cry>> ordered() {
        Map<Integer, List<Cry>> byNumber = new TreeMap<>();
        int[] label = labels();
        for (Cry c : cries) {
            if (label[c.number] >= 0) {
                byNumber.computeIfAbsent(label[c.number], l -> new ArrayList<>()).add(c);
            }
        }
        List<List<Cry>> all = new ArrayList<>(byNumber.values());
        Map<Integer, Integer> score = new HashMap<>();
        for (List<Cry> each : all) {
            score.put(each.get(0).number, scoreOf(each));
        }
        // The sort keeps those of one score as they are: by their numbers.
        all.sort((a, b) -> score.get(b.get(0).number) - score.get(a.get(0).number));
        return all;
    }

    private int scoreOf(List<Cry> each) {
        return each.stream().mapToInt(this::score).max().orElse(0);
    }

    private static int minutesOf(List<Cry> each) {
        return 5 + 2 * each.size();
    }

    private boolean littleKnown(List<Cry> each) {
        return each.stream().anyMatch(c -> depth(c) == 0);
    }

    private List<List<Cry>> taken(int minutes) {
        List<List<Cry>> taken = new ArrayList<>();
        List<List<Cry>> others = new ArrayList<>();
        int left = minutes;
        for (List<Cry> each : ordered()) {
            if (littleKnown(each) && taken.size() < tries && minutesOf(each) <= left) {
                taken.add(each);
                left -= minutesOf(each);
            } else {
                others.add(each);
            }
        }
        List<List<Cry>> pool = others.subList(0, Math.min(12, others.size()));
        int[] score = pool.stream().mapToInt(this::scoreOf).toArray();
        int bestSet = 0;
        int bestSum = 0;
        // The last in ORDER is the highest bit, so the least of several sets leaves out the last ones.
        for (int set = 0; set < 1 << pool.size(); set++) {
            int sum = 0;
            int used = 0;
            for (int i = 0; i < pool.size(); i++) {
                if ((set >> i & 1) == 1) {
                    sum += score[i];
                    used += minutesOf(pool.get(i));
                }
            }
            if (used <= left && sum > bestSum) {
                bestSet = set;
                bestSum = sum;
            }
        }
        for (int i = 0; i < pool.size(); i++) {
            if ((bestSet >> i & 1) == 1) {
                taken.add(pool.get(i));
            }
        }
        return taken;
    }
}
