import java.util.ArrayList;
import java.util.HashSet;
import java.util.List;
import java.util.Map;
import java.util.Random;
import java.util.Set;
import java.util.TreeMap;
import java.util.TreeSet;

/** Long runs of calls, each with the answer of a second program that was written from the document alone. */
public final class ReferenceTest {
    private static final int RUNS = 400;
    private static final int CALLS = 500;
    private static final int DEAD = 0, DEAF = 1, BARE = 2, STRICT = 3, LOOSE = 4;

    private static int wrong = 0;

    public static void main(String[] args) {
        for (int run = 0; run < RUNS && wrong < 20; run++) {
            compare(run);
        }
        System.out.println(wrong == 0 ? "both programs answer the same" : wrong + " answers are not the same");
        if (wrong != 0) {
            System.exit(1);
        }
    }

    private static void compare(int run) {
        Random random = new Random(run);
        VlanProbe probe = new VlanProbe();
        Reference reference = new Reference();
        List<String> calls = new ArrayList<>();
        for (int k = 0; k < CALLS; k++) {
            int[] call = drawCall(random, reference, run);
            String got = answerOf(probe, call);
            String due = reference.answerOf(call);
            calls.add(java.util.Arrays.toString(call) + " -> " + got);
            if (!got.equals(due)) {
                wrong++;
                System.out.println("run " + run + ", call " + k + ": due is " + due + " after " + calls);
                return;
            }
        }
    }

    /** The number of the call, 0 to 21 in the document's order, and its arguments. */
    private static int[] drawCall(Random random, Reference reference, int run) {
        int ports = reference.access.length;
        int kind = drawKind(random, run);
        int frame = draw(random, 0, reference.frames.size());
        int port = draw(random, 0, ports);
        return switch (kind) {
            case 0 -> new int[] {kind, draw(random, 2, 7)};
            case 2 -> new int[] {kind, port, draw(random, 1, 5)};
            case 3 -> drawTrunk(random, port);
            case 4 -> new int[] {kind, port, draw(random, 0, 5)};
            case 5 -> new int[] {kind, port, draw(random, 0, 5), draw(random, 0, 3), draw(random, 0, 4)};
            case 9, 12, 13, 14, 16, 17 -> new int[] {kind, frame};
            case 15 -> new int[] {kind, draw(random, 1, 5), draw(random, 0, 3)};
            case 19 -> new int[] {kind, port};
            case 21 -> new int[] {kind, draw(random, 0, 2)};
            default -> new int[] {kind};
        };
    }

    private static int drawKind(Random random, int run) {
        int dice = random.nextInt(1000);
        if (dice < 300) {
            return 5;
        }
        if (dice < 400) {
            return random.nextInt(run % 3 + 1) == 0 ? 3 : 2;
        }
        if (dice < 400 + 20 * (run % 5)) {
            return 4;
        }
        if (dice < 485) {
            return 21;
        }
        if (dice < 970) {
            int[] asking = {1, 8, 9, 10, 11, 12, 13, 14, 15, 16, 17, 18, 19, 20, 21, 22};
            return asking[random.nextInt(asking.length)];
        }
        int[] rare = {0, 6, 6, 7, 7};
        return rare[random.nextInt(rare.length)];
    }

    private static int[] drawTrunk(Random random, int port) {
        int networks = draw(random, 1, 16);
        int own = random.nextInt(5);
        boolean fits = own == 0 || (networks >> (own - 1) & 1) != 0;
        if (!fits && random.nextInt(4) != 0) {
            own = 0;
        }
        return new int[] {3, port, networks, own};
    }

    /** Mostly from the range, end excluded; now and then one beside it. */
    private static int draw(Random random, int start, int end) {
        if (random.nextInt(60) == 0) {
            return random.nextBoolean() ? end : start - 1;
        }
        return start + random.nextInt(Math.max(1, end - start));
    }

    private static String answerOf(VlanProbe x, int[] c) {
        try {
            return switch (c[0]) {
                case 0 -> { x.begin(c[1]); yield ""; }
                case 1 -> "" + x.ports();
                case 2 -> { x.access(c[1], c[2]); yield ""; }
                case 3 -> { x.trunk(c[1], c[2], c[3]); yield ""; }
                case 4 -> "" + x.fault(c[1], c[2]);
                case 5 -> "" + x.add(c[1], c[2], c[3], c[4]);
                case 6 -> "" + x.cover();
                case 7 -> { x.clear(); yield ""; }
                case 8 -> "" + x.frames();
                case 9 -> "" + x.frameAt(c[1]);
                case 10 -> "" + x.pairs();
                case 11 -> "" + x.pairsMet();
                case 12 -> "" + x.expected(c[1]);
                case 13 -> "" + x.expectedTagged(c[1]);
                case 14 -> "" + x.reason(c[1]);
                case 15 -> "" + x.learned(c[1], c[2]);
                case 16 -> "" + x.seen(c[1]);
                case 17 -> "" + x.seenTagged(c[1]);
                case 18 -> "" + x.differing();
                case 19 -> "" + x.differencesAt(c[1]);
                case 20 -> "" + x.blame();
                case 21 -> "" + x.blamed(c[1]);
                default -> "" + x.explanations();
            };
        } catch (RuntimeException e) {
            return e.getClass().getSimpleName();
        }
    }

    /** One frame's fate: where it leaves, and whether tagged, or why it does not. */
    private record Fate(TreeMap<Integer, Boolean> exits, int reason) {
        static Fate dropped(int reason) {
            return new Fate(new TreeMap<>(), reason);
        }

        int ports() {
            int set = 0;
            for (int port : exits.keySet()) {
                set |= 1 << port;
            }
            return set;
        }

        int tagged() {
            int set = 0;
            for (Map.Entry<Integer, Boolean> exit : exits.entrySet()) {
                set |= exit.getValue() ? 1 << exit.getKey() : 0;
            }
            return set;
        }
    }

    private static final class Reference {
        private int[] access;
        private List<Set<Integer>> networks;
        private int[] own;
        private Set<Integer> faults;
        private final List<int[]> frames = new ArrayList<>();
        private final Map<String, Integer> learned = new TreeMap<>();

        Reference() {
            start(4);
        }

        private void start(int ports) {
            access = new int[ports];
            networks = new ArrayList<>();
            own = new int[ports];
            faults = new TreeSet<>();
            for (int port = 0; port < ports; port++) {
                access[port] = 1;
                networks.add(Set.of());
            }
            frames.clear();
        }

        String answerOf(int[] c) {
            String refused = refusal(c);
            if (refused != null) {
                return refused;
            }
            return c[0] <= 7 ? change(c) : "" + ask(c);
        }

        private String refusal(int[] c) {
            String index = "IndexOutOfBoundsException";
            String argument = "IllegalArgumentException";
            boolean noPort = c.length > 1 && (c[1] < 0 || c[1] >= access.length);
            switch (c[0]) {
                case 0:
                    return within(c[1], 2, 6) ? null : argument;
                case 2:
                    return noPort ? index : within(c[2], 1, 4) ? null : argument;
                case 3:
                    boolean fits = c[3] == 0 || bits(c[2]).contains(c[3]);
                    return noPort ? index : within(c[2], 1, 15) && fits ? null : argument;
                case 4:
                    return noPort ? index : within(c[2], 0, 4) ? null : argument;
                case 5:
                    boolean values = within(c[2], 0, 4) && within(c[3], 0, 2) && within(c[4], 0, 3);
                    String full = frames.size() == 60 ? "IllegalStateException" : null;
                    return noPort ? index : values ? full : argument;
                case 9, 12, 13, 14, 16, 17:
                    return within(c[1], 0, frames.size() - 1) ? null : index;
                case 15:
                    return within(c[1], 1, 4) && within(c[2], 0, 2) ? null : argument;
                case 19:
                    return noPort ? index : null;
                case 21:
                    List<Set<Integer>> found = explanations();
                    return !found.isEmpty() && within(c[1], 0, found.get(0).size() - 1) ? null : index;
                default:
                    return null;
            }
        }

        private static boolean within(int value, int low, int high) {
            return value >= low && value <= high;
        }

        private static Set<Integer> bits(int set) {
            Set<Integer> result = new HashSet<>();
            for (int network = 1; network <= 4; network++) {
                if ((set >> (network - 1)) % 2 == 1) {
                    result.add(network);
                }
            }
            return result;
        }

        private String change(int[] c) {
            switch (c[0]) {
                case 0:
                    start(c[1]);
                    return "";
                case 2:
                    access[c[1]] = c[2];
                    return "";
                case 3:
                    access[c[1]] = 0;
                    networks.set(c[1], bits(c[2]));
                    own[c[1]] = c[3];
                    return "";
                case 4:
                    int number = 10 * c[1] + c[2];
                    boolean has = faults.add(number) || !faults.remove(number);
                    return "" + has;
                case 5:
                    frames.add(new int[] {c[1], c[2], c[3], c[4]});
                    return "" + (frames.size() - 1);
                case 6:
                    return cover();
                case 7:
                    frames.clear();
                    return "";
                default:
                    return "" + access.length;
            }
        }

        private String cover() {
            List<int[]> longer = new ArrayList<>(frames);
            Set<String> met = new HashSet<>();
            for (int[] frame : frames) {
                met.addAll(pairsOf(frame));
            }
            while (met.size() < pairCount()) {
                int[] best = null;
                int most = 0;
                for (int[] frame : everyFrame()) {
                    Set<String> fresh = new HashSet<>(pairsOf(frame));
                    fresh.removeAll(met);
                    if (fresh.size() > most) {
                        most = fresh.size();
                        best = frame;
                    }
                }
                longer.add(best);
                met.addAll(pairsOf(best));
            }
            if (longer.size() > 60) {
                return "IllegalStateException";
            }
            int added = longer.size() - frames.size();
            frames.clear();
            frames.addAll(longer);
            return "" + added;
        }

        private List<int[]> everyFrame() {
            List<int[]> every = new ArrayList<>();
            for (int k = 0; k < access.length * 60; k++) {
                every.add(new int[] {k / 60, k / 12 % 5, k / 4 % 3, k % 4});
            }
            return every;
        }

        private static Set<String> pairsOf(int[] frame) {
            Set<String> result = new HashSet<>();
            for (int one = 0; one < 4; one++) {
                for (int two = one + 1; two < 4; two++) {
                    result.add(one + "=" + frame[one] + "," + two + "=" + frame[two]);
                }
            }
            return result;
        }

        private int pairCount() {
            Set<String> all = new HashSet<>();
            for (int[] frame : everyFrame()) {
                all.addAll(pairsOf(frame));
            }
            return all.size();
        }

        private long ask(int[] c) {
            List<Fate> model = run(Set.of(), frames.size());
            Map<String, Integer> places = new TreeMap<>(learned);
            List<Fate> real = run(faults, frames.size());
            switch (c[0]) {
                case 8:
                    return frames.size();
                case 9:
                    int[] f = frames.get(c[1]);
                    return Long.parseLong("" + f[0] + f[1] + f[2] + f[3]);
                case 10:
                    return pairCount();
                case 11:
                    Set<String> met = new HashSet<>();
                    frames.forEach(frame -> met.addAll(pairsOf(frame)));
                    return met.size();
                case 12:
                    return model.get(c[1]).ports();
                case 13:
                    return model.get(c[1]).tagged();
                case 14:
                    return model.get(c[1]).reason();
                case 15:
                    return places.getOrDefault(c[1] + ":" + c[2], -1);
                case 16:
                    return real.get(c[1]).ports();
                case 17:
                    return real.get(c[1]).tagged();
                case 18:
                    return differing(model, real);
                case 19:
                    return differencesAt(c[1], model, real);
                default:
                    return explain(c);
            }
        }

        private static long differing(List<Fate> model, List<Fate> real) {
            long result = 0;
            for (int k = 0; k < model.size(); k++) {
                result += model.get(k).exits().equals(real.get(k).exits()) ? 0 : (long) Math.pow(2, k);
            }
            return result;
        }

        private static long differencesAt(int port, List<Fate> model, List<Fate> real) {
            int result = 0;
            for (int k = 0; k < model.size(); k++) {
                Boolean should = model.get(k).exits().get(port);
                Boolean does = real.get(k).exits().get(port);
                result += java.util.Objects.equals(should, does) ? 0 : 1;
            }
            return result;
        }

        private long explain(int[] c) {
            List<Set<Integer>> found = explanations();
            if (c[0] == 22) {
                return found.size();
            }
            if (c[0] == 20) {
                return found.isEmpty() ? -1 : found.get(0).size();
            }
            return new ArrayList<>(found.get(0)).get(c[1]);
        }

        private List<Set<Integer>> explanations() {
            List<Integer> all = new ArrayList<>();
            for (int port = 0; port < access.length; port++) {
                for (int kind = 0; kind < 5; kind++) {
                    all.add(10 * port + kind);
                }
            }
            List<Set<Integer>> none = List.of(new TreeSet<>());
            List<Set<Integer>> ones = new ArrayList<>();
            List<Set<Integer>> twos = new ArrayList<>();
            for (int one : all) {
                ones.add(new TreeSet<>(List.of(one)));
                for (int two : all) {
                    if (one < two) {
                        twos.add(new TreeSet<>(List.of(one, two)));
                    }
                }
            }
            List<Fate> real = run(faults, frames.size());
            for (List<Set<Integer>> size : List.of(none, ones, twos)) {
                List<Set<Integer>> fitting = new ArrayList<>();
                for (Set<Integer> guess : size) {
                    if (explains(guess, real)) {
                        fitting.add(guess);
                    }
                }
                if (!fitting.isEmpty()) {
                    return fitting;
                }
            }
            return List.of();
        }

        private boolean explains(Set<Integer> guess, List<Fate> real) {
            List<Fate> told = run(guess, frames.size());
            for (int k = 0; k < real.size(); k++) {
                if (!told.get(k).exits().equals(real.get(k).exits())) {
                    return false;
                }
            }
            return true;
        }

        private List<Fate> run(Set<Integer> with, int count) {
            learned.clear();
            List<Fate> fates = new ArrayList<>();
            for (int k = 0; k < count; k++) {
                fates.add(fateOf(frames.get(k), with));
            }
            return fates;
        }

        private Fate fateOf(int[] frame, Set<Integer> with) {
            int port = frame[0];
            int tag = frame[1];
            int atPort = 10 * port;
            if (with.contains(atPort + DEAD) || tag == 0 && with.contains(atPort + STRICT)) {
                return Fate.dropped(0);
            }
            int network;
            if (tag != 0 && with.contains(atPort + LOOSE)) {
                network = tag;
            } else if (access[port] != 0) {
                if (tag != 0) {
                    return Fate.dropped(VlanProbe.TAGGED);
                }
                network = access[port];
            } else if (tag == 0) {
                if (own[port] == 0) {
                    return Fate.dropped(VlanProbe.UNTAGGED);
                }
                network = own[port];
            } else {
                if (!networks.get(port).contains(tag)) {
                    return Fate.dropped(VlanProbe.FOREIGN);
                }
                network = tag;
            }
            if (!with.contains(atPort + DEAF)) {
                learned.put(network + ":" + frame[2], port);
            }
            return leave(port, network, frame[3], with);
        }

        private Fate leave(int port, int network, int destination, Set<Integer> with) {
            Set<Integer> wanted = new TreeSet<>();
            Integer place = destination == 3 ? null : learned.get(network + ":" + destination);
            if (place != null) {
                if (place == port) {
                    return Fate.dropped(VlanProbe.LOCAL);
                }
                wanted.add(place);
            } else {
                for (int other = 0; other < access.length; other++) {
                    boolean belongs = access[other] == network
                            || access[other] == 0 && networks.get(other).contains(network);
                    if (other != port && belongs) {
                        wanted.add(other);
                    }
                }
            }
            if (wanted.isEmpty()) {
                return Fate.dropped(VlanProbe.NOWHERE);
            }
            TreeMap<Integer, Boolean> exits = new TreeMap<>();
            for (int exit : wanted) {
                if (!with.contains(10 * exit + DEAD)) {
                    boolean bare = with.contains(10 * exit + BARE);
                    exits.put(exit, !bare && access[exit] == 0 && own[exit] != network);
                }
            }
            return new Fate(exits, VlanProbe.LEAVES);
        }
    }
}
