/** Every promise of the document, with answers worked out by hand: ordinary inputs, edges, wrong inputs. */
public final class PromisesTest {
    private static final int DEAD = VlanProbe.DEAD;
    private static final int DEAF = VlanProbe.DEAF;
    private static final int BARE = VlanProbe.BARE;
    private static final int STRICT = VlanProbe.STRICT;
    private static final int LOOSE = VlanProbe.LOOSE;

    private static final String INDEX = "IndexOutOfBoundsException";
    private static final String ARGUMENT = "IllegalArgumentException";
    private static final String STATE = "IllegalStateException";

    private static final int[] NO_PORTS_OF_4 = {-1, 4, 5, Integer.MIN_VALUE, Integer.MAX_VALUE};

    private static int wrong = 0;
    private static int promise = 0;

    private interface Call {
        void run();
    }

    public static void main(String[] args) {
        constants();
        promise1NewObject();
        promise2Begin();
        promise3Ports();
        promise4Access();
        promise5Trunk();
        promise6Fault();
        promise7Add();
        promise8Cover();
        promise8CoverAtTheLimit();
        promise9Clear();
        promise10Frames();
        promise11FrameAt();
        promise12Pairs();
        promise13PairsMet();
        promise14Expected();
        promise15ExpectedTagged();
        promise16Reason();
        promise17Learned();
        promise18SeenDeadAndDeaf();
        promise18SeenStrictAndLoose();
        promise19SeenTagged();
        promise20Differing();
        promise21DifferencesAt();
        promise22Blame();
        promise23Blamed();
        promise24Explanations();
        answersFollowEveryChange();
        System.out.println(wrong == 0 ? "all promises hold" : wrong + " answers are wrong");
        if (wrong != 0) {
            System.exit(1);
        }
    }

    // ---- the switch

    private static void constants() {
        promise = 0;
        is("NONE", VlanProbe.NONE, -1);
        is("faults", 10000 * DEAD + 1000 * DEAF + 100 * BARE + 10 * STRICT + LOOSE, 1234);
        is("LEAVES", VlanProbe.LEAVES, 0);
        is("TAGGED", VlanProbe.TAGGED, 1);
        is("UNTAGGED", VlanProbe.UNTAGGED, 2);
        is("FOREIGN", VlanProbe.FOREIGN, 3);
        is("LOCAL", VlanProbe.LOCAL, 4);
        is("NOWHERE", VlanProbe.NOWHERE, 5);
    }

    private static void promise1NewObject() {
        promise = 1;
        VlanProbe x = new VlanProbe();
        is("ports", x.ports(), 4);
        is("frames", x.frames(), 0);
        is("differing", x.differing(), 0);
        is("blame", x.blame(), 0);
        for (int network = 1; network <= 4; network++) {
            for (int address = 0; address <= 2; address++) {
                is("learned", x.learned(network, address), VlanProbe.NONE);
            }
        }
        isWithoutFaults(x);
        for (int port = 0; port < 4; port++) {
            x.clear();
            isAccessOf1(x, port);
        }
    }

    private static void promise2Begin() {
        promise = 2;
        VlanProbe x = new VlanProbe();
        x.trunk(0, 6, 2);
        x.fault(1, DEAD);
        x.add(0, 3, 1, 3);
        int[] wrongPorts = {1, 7, 0, -1, -4, Integer.MIN_VALUE, Integer.MAX_VALUE};
        for (int ports : wrongPorts) {
            fails("begin(" + ports + ")", ARGUMENT, () -> x.begin(ports));
        }
        is("ports after a throw", x.ports(), 4);
        is("frames after a throw", x.frames(), 1);
        is("reason after a throw", x.reason(0), VlanProbe.NOWHERE);
        is("the fault after a throw", x.fault(1, DEAD) ? 1 : 0, 0);
        x.fault(1, DEAD);
        for (int ports = 6; ports >= 2; ports--) {
            x.trunk(0, 6, 2);
            x.add(0, 3, 1, 3);
            for (int kind = DEAD; kind <= LOOSE; kind++) {
                x.fault(1, kind);
            }
            x.begin(ports);
            is("ports", x.ports(), ports);
            is("frames", x.frames(), 0);
            isWithoutFaults(x);
            for (int port = 0; port < ports; port++) {
                x.clear();
                isAccessOf1(x, port);
            }
            x.clear();
        }
        is("learned anew", x.learned(3, 1), VlanProbe.NONE);
    }

    private static void promise3Ports() {
        promise = 3;
        VlanProbe x = new VlanProbe();
        is("at first", x.ports(), 4);
        x.begin(2);
        is("2", x.ports(), 2);
        x.begin(6);
        is("6", x.ports(), 6);
        x.cover();
        x.clear();
        is("still 6", x.ports(), 6);
    }

    private static void promise4Access() {
        promise = 4;
        VlanProbe x = new VlanProbe();
        for (int port : NO_PORTS_OF_4) {
            fails("access(" + port + ", 1)", INDEX, () -> x.access(port, 1));
            fails("access(" + port + ", 0)", INDEX, () -> x.access(port, 0));
        }
        int[] wrongNetworks = {0, 5, -1, 33, Integer.MIN_VALUE, Integer.MAX_VALUE};
        for (int network : wrongNetworks) {
            fails("access(0, " + network + ")", ARGUMENT, () -> x.access(0, network));
        }
        isAccessOf1(x, 0);
        x.clear();
        x.access(1, 2);
        x.access(3, 2);
        x.access(2, 4);
        x.add(1, 0, 0, 3);
        is("network 2 is 1 and 3", x.expected(0), 8);
        x.add(0, 0, 0, 3);
        is("network 1 is 0 alone", x.reason(1), VlanProbe.NOWHERE);
        x.add(2, 4, 0, 3);
        is("its own tag is refused", x.reason(2), VlanProbe.TAGGED);
        x.trunk(2, 2, 0);
        is("a trunk port beside", x.expected(0), 12);
        x.access(2, 1);
        is("no trunk port any more", x.expected(0), 8);
        is("but one of network 1", x.expected(1), 4);
        x.begin(2);
        fails("access(2, 1) of 2", INDEX, () -> x.access(2, 1));
    }

    private static void promise5Trunk() {
        promise = 5;
        VlanProbe x = new VlanProbe();
        for (int port : NO_PORTS_OF_4) {
            fails("trunk(" + port + ", 1, 1)", INDEX, () -> x.trunk(port, 1, 1));
            fails("trunk(" + port + ", 0, 9)", INDEX, () -> x.trunk(port, 0, 9));
        }
        int[] wrongSets = {0, 16, 17, -1, Integer.MIN_VALUE, Integer.MAX_VALUE};
        for (int set : wrongSets) {
            fails("trunk(0, " + set + ", 0)", ARGUMENT, () -> x.trunk(0, set, 0));
            fails("trunk(0, " + set + ", 1)", ARGUMENT, () -> x.trunk(0, set, 1));
        }
        int[] wrongNatives = {-1, 5, 32, 33, -31, Integer.MIN_VALUE, Integer.MAX_VALUE};
        for (int own : wrongNatives) {
            fails("trunk(0, 15, " + own + ")", ARGUMENT, () -> x.trunk(0, 15, own));
            fails("trunk(0, 1, " + own + ")", ARGUMENT, () -> x.trunk(0, 1, own));
        }
        fails("trunk(0, 13, 2)", ARGUMENT, () -> x.trunk(0, 13, 2));
        fails("trunk(0, 7, 4)", ARGUMENT, () -> x.trunk(0, 7, 4));
        isAccessOf1(x, 0);
        trunkSets();
    }

    private static void trunkSets() {
        for (int set = 1; set <= 15; set++) {
            for (int own = 0; own <= 4; own++) {
                boolean fits = own == 0 || (set & 1 << (own - 1)) != 0;
                VlanProbe y = new VlanProbe();
                y.begin(2);
                y.trunk(1, 15, 0);
                int theSet = set;
                int theOwn = own;
                if (!fits) {
                    fails("trunk(0, " + set + ", " + own + ")", ARGUMENT, () -> y.trunk(0, theSet, theOwn));
                    continue;
                }
                y.trunk(0, set, own);
                for (int tag = 0; tag <= 4; tag++) {
                    y.add(0, tag, 0, 3);
                    boolean gets = tag == 0 ? own != 0 : (set & 1 << (tag - 1)) != 0;
                    is("set " + set + " own " + own + " tag " + tag, y.expected(tag), gets ? 2 : 0);
                }
            }
        }
    }

    private static void promise6Fault() {
        promise = 6;
        VlanProbe x = new VlanProbe();
        for (int port : NO_PORTS_OF_4) {
            fails("fault(" + port + ", 0)", INDEX, () -> x.fault(port, 0));
            fails("fault(" + port + ", 5)", INDEX, () -> x.fault(port, 5));
        }
        int[] wrongFaults = {-1, 5, 6, Integer.MIN_VALUE, Integer.MAX_VALUE};
        for (int fault : wrongFaults) {
            fails("fault(0, " + fault + ")", ARGUMENT, () -> x.fault(0, fault));
        }
        isWithoutFaults(x);
        x.begin(6);
        for (int port = 0; port < 6; port++) {
            for (int kind = DEAD; kind <= LOOSE; kind++) {
                is("given", x.fault(port, kind) ? 1 : 0, 1);
            }
        }
        for (int port = 5; port >= 0; port--) {
            for (int kind = LOOSE; kind >= DEAD; kind--) {
                is("taken", x.fault(port, kind) ? 1 : 0, 0);
                is("given again", x.fault(port, kind) ? 1 : 0, 1);
            }
        }
        x.add(0, 0, 0, 3);
        is("the model does not know them", x.expected(0), 62);
        x.clear();
        is("clear leaves them", x.fault(2, BARE) ? 1 : 0, 0);
    }

    // ---- frames

    private static void promise7Add() {
        promise = 7;
        VlanProbe x = new VlanProbe();
        addsNothingWrong(x, 0, INDEX, ARGUMENT);
        for (int k = 0; k < 60; k++) {
            is("its number", x.add(k % 4, k % 5, k % 3, k / 4 % 4), k);
        }
        fails("the frame after 60", STATE, () -> x.add(0, 0, 0, 0));
        addsNothingWrong(x, 60, INDEX, ARGUMENT);
        is("frame 59", x.frameAt(59), 3422);
        x.begin(2);
        fails("add(2, 0, 0, 0) of 2", INDEX, () -> x.add(2, 0, 0, 0));
        is("add(1, 4, 2, 3)", x.add(1, 4, 2, 3), 0);
    }

    private static void addsNothingWrong(VlanProbe x, int frames, String noPort, String noValue) {
        for (int port : NO_PORTS_OF_4) {
            fails("add(" + port + ", 0, 0, 0)", noPort, () -> x.add(port, 0, 0, 0));
            fails("add(" + port + ", 5, 3, 4)", noPort, () -> x.add(port, 5, 3, 4));
        }
        int[] far = {-1, 5, Integer.MIN_VALUE, Integer.MAX_VALUE};
        for (int value : far) {
            fails("tag " + value, noValue, () -> x.add(0, value, 0, 0));
            fails("source " + value, noValue, () -> x.add(0, 0, value, 0));
            fails("destination " + value, noValue, () -> x.add(0, 0, 0, value));
        }
        fails("source 3", noValue, () -> x.add(0, 0, 3, 0));
        fails("destination 4", noValue, () -> x.add(0, 0, 0, 4));
        is("frames after the throws", x.frames(), frames);
    }

    private static void promise8Cover() {
        promise = 8;
        VlanProbe x = new VlanProbe();
        x.begin(2);
        is("2 ports", x.cover(), 20);
        int[] first = {0, 111, 222, 1012};
        for (int k = 0; k < first.length; k++) {
            is("frame " + k, x.frameAt(k), first[k]);
        }
        is("nothing is left", x.cover(), 0);
        is("frames", x.frames(), 20);
        x.clear();
        x.add(0, 0, 0, 0);
        is("the first is there", x.cover(), 19);
        is("the next one", x.frameAt(1), 111);
        x.clear();
        x.add(0, 1, 1, 1);
        x.cover();
        is("the lowest is the first", x.frameAt(1), 0);
        is("all are met", x.pairsMet(), 71);
        for (int ports = 2; ports <= 6; ports++) {
            x.begin(ports);
            int added = x.cover();
            is("frames of " + ports, x.frames(), added);
            is("met of " + ports, x.pairsMet(), x.pairs());
            is("at least one a port and tag", added >= 5 * ports ? 1 : 0, 1);
        }
    }

    private static void promise8CoverAtTheLimit() {
        VlanProbe x = new VlanProbe();
        x.begin(2);
        for (int k = 0; k < 41; k++) {
            x.add(0, 0, 0, 0);
        }
        is("up to 60", x.cover(), 19);
        is("60 frames", x.frames(), 60);
        is("none at 60", x.cover(), 0);
        x.clear();
        for (int k = 0; k < 42; k++) {
            x.add(0, 0, 0, 0);
        }
        fails("up to 61", STATE, x::cover);
        is("frames after the throw", x.frames(), 42);
        is("pairs after the throw", x.pairsMet(), 6);
        fails("frame 42", INDEX, () -> x.frameAt(42));
        is("the next one", x.add(1, 4, 2, 3), 42);
        is("the next one's setting", x.frameAt(42), 1423);
        x.clear();
        for (int k = 0; k < 60; k++) {
            x.add(1, 4, 2, 3);
        }
        fails("60 already", STATE, x::cover);
        is("60 as they were", x.frames(), 60);
    }

    private static void promise9Clear() {
        promise = 9;
        VlanProbe x = new VlanProbe();
        x.clear();
        is("nothing to clear", x.frames(), 0);
        x.trunk(1, 3, 2);
        x.fault(2, DEAD);
        x.add(0, 0, 0, 3);
        x.add(0, 0, 1, 3);
        x.clear();
        is("frames", x.frames(), 0);
        fails("frame 0", INDEX, () -> x.frameAt(0));
        is("pairs met", x.pairsMet(), 0);
        is("learned", x.learned(1, 0), VlanProbe.NONE);
        is("numbered from 0", x.add(0, 0, 1, 3), 0);
        is("the ports stay", x.expected(0), 14);
        is("tagged at the trunk port", x.expectedTagged(0), 2);
        is("the fault stays", x.seen(0), 10);
    }

    private static void promise10Frames() {
        promise = 10;
        VlanProbe x = new VlanProbe();
        is("at first", x.frames(), 0);
        for (int k = 1; k <= 60; k++) {
            x.add(0, 0, 0, 0);
            is("added", x.frames(), k);
        }
        x.clear();
        is("cleared", x.frames(), 0);
        is("covered", x.cover(), x.frames());
    }

    private static void promise11FrameAt() {
        promise = 11;
        VlanProbe x = new VlanProbe();
        fails("of none", INDEX, () -> x.frameAt(0));
        x.begin(6);
        x.add(5, 4, 2, 3);
        x.add(0, 0, 0, 0);
        x.add(1, 2, 0, 3);
        is("5423", x.frameAt(0), 5423);
        is("0", x.frameAt(1), 0);
        is("1203", x.frameAt(2), 1203);
        noFrame("frameAt", 3, k -> x.frameAt(k));
    }

    private static void promise12Pairs() {
        promise = 12;
        VlanProbe x = new VlanProbe();
        is("4 ports", x.pairs(), 95);
        int[] due = {71, 83, 95, 107, 119};
        for (int ports = 2; ports <= 6; ports++) {
            x.begin(ports);
            is(ports + " ports", x.pairs(), due[ports - 2]);
        }
        x.cover();
        is("all met", x.pairs(), 119);
    }

    private static void promise13PairsMet() {
        promise = 13;
        VlanProbe x = new VlanProbe();
        is("none", x.pairsMet(), 0);
        x.add(0, 0, 0, 0);
        is("six", x.pairsMet(), 6);
        x.add(0, 0, 0, 0);
        is("the same", x.pairsMet(), 6);
        x.add(0, 0, 0, 1);
        is("another destination", x.pairsMet(), 9);
        x.add(0, 0, 1, 1);
        is("another source", x.pairsMet(), 12);
        x.add(0, 1, 1, 1);
        is("another tag", x.pairsMet(), 15);
        x.add(1, 1, 1, 1);
        is("another port", x.pairsMet(), 18);
        x.add(1, 1, 0, 0);
        is("five of six", x.pairsMet(), 22);
        x.add(3, 4, 2, 3);
        is("six more", x.pairsMet(), 28);
        x.cover();
        is("all", x.pairsMet(), 95);
    }

    // ---- what should be

    private static void promise14Expected() {
        promise = 14;
        VlanProbe x = mixed();
        x.add(0, 0, 0, 3);
        is("to all of network 1", x.expected(0), 0b010010);
        x.add(1, 0, 1, 0);
        is("to the learned port alone", x.expected(1), 0b000001);
        x.add(2, 2, 0, 1);
        is("not learned in network 2", x.expected(2), 0b010100 & ~0b100 | 0b001000);
        x.add(4, 2, 1, 0);
        is("learned in network 2", x.expected(3), 0b000100);
        x.add(0, 0, 2, 2);
        is("to itself", x.expected(4), 0);
        x.add(4, 4, 0, 3);
        is("nowhere", x.expected(5), 0);
        x.add(0, 1, 0, 3);
        is("tagged", x.expected(6), 0);
        x.add(4, 0, 0, 3);
        is("untagged", x.expected(7), 0);
        x.add(2, 4, 0, 3);
        is("foreign", x.expected(8), 0);
        x.add(1, 0, 0, 3);
        x.add(4, 1, 2, 0);
        is("in place of where it was", x.expected(10), 0b000010);
        x.add(5, 0, 0, 3);
        is("to all, though all are learned", x.expected(11), 0b000100 | 0b010000);
        noFrame("expected", 12, k -> x.expected(k));
    }

    private static void promise15ExpectedTagged() {
        promise = 15;
        VlanProbe x = mixed();
        x.add(0, 0, 0, 3);
        is("network 1: trunk without a native one", x.expectedTagged(0), 0b010000);
        x.add(4, 2, 0, 3);
        is("network 2: access 3, native at 2", x.expected(1), 0b001100);
        is("network 2: untagged at both", x.expectedTagged(1), 0);
        x.add(5, 0, 1, 3);
        is("network 3: not the native one of 2", x.expectedTagged(2), 0b010100);
        x.add(2, 3, 0, 1);
        is("to an access port", x.expected(3), 0b100000);
        is("to an access port untagged", x.expectedTagged(3), 0);
        x.add(5, 0, 1, 0);
        is("to a trunk port tagged", x.expectedTagged(4), 0b000100);
        x.add(0, 1, 0, 3);
        is("dropped", x.expectedTagged(5), 0);
        noFrame("expectedTagged", 6, k -> x.expectedTagged(k));
    }

    private static void promise16Reason() {
        promise = 16;
        VlanProbe x = mixed();
        x.add(0, 0, 0, 3);
        is("leaves", x.reason(0), VlanProbe.LEAVES);
        x.add(0, 1, 1, 3);
        is("tagged at an access port", x.reason(1), VlanProbe.TAGGED);
        x.add(4, 0, 1, 3);
        is("untagged without a native one", x.reason(2), VlanProbe.UNTAGGED);
        x.add(2, 1, 1, 3);
        is("foreign", x.reason(3), VlanProbe.FOREIGN);
        x.add(0, 0, 1, 0);
        is("local, as learned before", x.reason(4), VlanProbe.LOCAL);
        x.add(1, 0, 2, 2);
        is("local, as just learned", x.reason(5), VlanProbe.LOCAL);
        x.add(4, 4, 2, 3);
        is("alone in network 4, to all", x.reason(6), VlanProbe.NOWHERE);
        x.add(4, 4, 2, 0);
        is("alone in network 4, to one", x.reason(7), VlanProbe.NOWHERE);
        x.add(1, 0, 2, 1);
        is("to one learned elsewhere", x.reason(8), VlanProbe.LEAVES);
        x.fault(0, DEAD);
        x.fault(1, DEAD);
        x.fault(4, DEAD);
        is("faults are not known", x.reason(0), VlanProbe.LEAVES);
        noFrame("reason", 9, k -> x.reason(k));
    }

    private static void promise17Learned() {
        promise = 17;
        VlanProbe x = mixed();
        x.add(0, 0, 0, 3);
        is("at 0", x.learned(1, 0), 0);
        x.add(4, 1, 0, 3);
        is("then at 4", x.learned(1, 0), 4);
        x.add(3, 0, 0, 3);
        is("in network 2 at 3", x.learned(2, 0), 3);
        is("in network 1 still at 4", x.learned(1, 0), 4);
        x.add(0, 1, 1, 3);
        is("not from a refused one", x.learned(1, 1), VlanProbe.NONE);
        x.add(1, 0, 1, 1);
        is("from a local one", x.learned(1, 1), 1);
        x.add(4, 4, 2, 3);
        is("from one to nowhere", x.learned(4, 2), 4);
        x.fault(1, DEAF);
        x.fault(2, LOOSE);
        x.add(1, 0, 2, 3);
        x.add(2, 4, 2, 3);
        is("a deaf port is not known", x.learned(1, 2), 1);
        is("a loose port is not known", x.learned(4, 2), 4);
        int[] far = {-1, 5, Integer.MIN_VALUE, Integer.MAX_VALUE};
        for (int value : far) {
            fails("network " + value, ARGUMENT, () -> x.learned(value, 0));
            fails("address " + value, ARGUMENT, () -> x.learned(1, value));
        }
        fails("network 0", ARGUMENT, () -> x.learned(0, 2));
        fails("address 3", ARGUMENT, () -> x.learned(4, 3));
    }

    // ---- what is

    private static void promise18SeenDeadAndDeaf() {
        promise = 18;
        VlanProbe x = new VlanProbe();
        x.add(0, 0, 0, 3);
        x.add(1, 0, 1, 0);
        x.add(2, 0, 2, 1);
        is("without faults", x.seen(0), 14);
        is("without faults", x.seen(1), 1);
        x.fault(1, DEAD);
        is("no frame leaves at a dead port", x.seen(0), 12);
        is("no frame enters there", x.seen(1), 0);
        is("nor is it learned there", x.seen(2), 9);
        is("the model stays", x.expected(2), 2);
        x.fault(1, DEAD);
        x.fault(0, DEAF);
        is("enters at a deaf port", x.seen(0), 14);
        is("was not learned at a deaf port", x.seen(1), 13);
        x.clear();
        x.add(1, 0, 0, 3);
        x.add(0, 0, 0, 0);
        is("stays where it was", x.seen(1), 2);
        x.fault(0, DEAF);
        is("is there for the switch", x.seen(1), 0);
        x.fault(1, DEAD);
        x.fault(0, DEAF);
        is("to itself at a deaf port", x.seen(1), 12);
        x.fault(2, DEAD);
        x.fault(3, DEAD);
        is("all others are dead", x.seen(1), 0);
        x.clear();
        x.add(0, 0, 0, 3);
        x.add(1, 0, 1, 0);
        x.fault(1, DEAD);
        x.fault(0, DEAF);
        x.fault(0, DEAD);
        is("not to a dead port", x.seen(1), 0);
        noFrame("seen", 2, k -> x.seen(k));
    }

    private static void promise18SeenStrictAndLoose() {
        VlanProbe x = mixed();
        x.add(0, 0, 0, 3);
        x.add(4, 1, 1, 0);
        x.fault(0, STRICT);
        x.fault(4, STRICT);
        is("untagged at a strict port", x.seen(0), 0);
        is("tagged at a strict port, the other not learned", x.seen(1), 0b000011);
        x.begin(4);
        x.access(1, 2);
        x.access(2, 2);
        x.trunk(3, 1, 1);
        x.fault(0, LOOSE);
        x.fault(3, LOOSE);
        x.add(0, 2, 0, 3);
        is("the model refuses it", x.reason(0), VlanProbe.TAGGED);
        is("gets the network of its tag", x.seen(0), 0b0110);
        x.add(1, 0, 1, 0);
        is("was learned where it came in", x.seen(1), 0b0001);
        is("at an access port, so untagged", x.seenTagged(1), 0);
        x.add(0, 2, 2, 0);
        is("local by the loose port", x.seen(2), 0);
        x.add(3, 2, 0, 3);
        is("foreign", x.reason(3), VlanProbe.FOREIGN);
        is("foreign at a loose port", x.seen(3), 0b0110);
        x.add(2, 0, 1, 0);
        is("goes back there", x.seen(4), 0b1000);
        is("not its native one, so tagged", x.seenTagged(4), 0b1000);
        x.add(3, 0, 0, 3);
        is("untagged has its native one", x.seen(5), 0b0001);
        x.add(0, 1, 2, 3);
        is("the tag of its own network", x.seen(6), 0b1000);
        x.add(0, 3, 2, 3);
        is("a network of no port", x.seen(7), 0);
        x.trunk(3, 1, 0);
        is("untagged is still refused at a loose port", x.seen(5), 0);
        x.fault(0, DEAD);
        is("dead and loose", x.seen(0), 0);
        x.fault(0, DEAD);
        x.fault(0, DEAF);
        is("deaf and loose", x.seen(0), 0b0110);
        is("deaf and loose, not learned", x.seen(1), 0b0100);
    }

    private static void promise19SeenTagged() {
        promise = 19;
        VlanProbe x = mixed();
        x.add(0, 0, 0, 3);
        x.add(5, 0, 1, 3);
        is("without faults", x.seenTagged(0), 0b010000);
        is("without faults", x.seenTagged(1), 0b010100);
        x.fault(4, BARE);
        is("bare", x.seen(0), 0b010010);
        is("bare is untagged", x.seenTagged(0), 0);
        is("bare is so at one port", x.seenTagged(1), 0b000100);
        x.fault(2, DEAD);
        is("dead is not tagged", x.seenTagged(1), 0);
        is("the model stays", x.expectedTagged(1), 0b010100);
        x.fault(2, DEAD);
        x.fault(0, BARE);
        x.fault(5, BARE);
        is("not where it enters", x.seenTagged(1), 0b000100);
        x.add(0, 2, 0, 3);
        is("dropped", x.seenTagged(2), 0);
        noFrame("seenTagged", 3, k -> x.seenTagged(k));
    }

    private static void promise20Differing() {
        promise = 20;
        VlanProbe x = mixed();
        is("no frames", x.differing(), 0);
        x.add(0, 0, 0, 3);
        x.add(5, 0, 1, 3);
        x.add(1, 0, 1, 3);
        is("no faults", x.differing(), 0);
        x.fault(4, BARE);
        is("tagged at others", x.differing(), 0b111);
        x.fault(4, BARE);
        x.fault(1, DEAD);
        is("at other ports", x.differing(), 0b101);
        x.fault(1, DEAD);
        x.fault(3, DEAD);
        is("a fault that does not show", x.differing(), 0);
        x.fault(3, DEAD);
        x.fault(0, DEAD);
        for (int k = 3; k < 60; k++) {
            x.add(k % 2 == 1 ? 0 : 2, 0, 0, 3);
        }
        long odd = 0xAAAAAAAAAAAAAAAAL & (1L << 60) - 1;
        is("up to frame 59", x.differing(), odd & ~0b111L | 0b101);
    }

    private static void promise21DifferencesAt() {
        promise = 21;
        VlanProbe x = mixed();
        x.add(0, 0, 0, 3);
        x.add(1, 0, 1, 3);
        x.add(5, 0, 1, 3);
        for (int port = 0; port < 6; port++) {
            is("no faults", x.differencesAt(port), 0);
        }
        x.fault(4, BARE);
        is("tagged by just one", x.differencesAt(4), 3);
        is("not elsewhere", x.differencesAt(2), 0);
        x.fault(4, DEAD);
        is("leaves by just one", x.differencesAt(4), 3);
        x.fault(4, DEAD);
        x.fault(4, BARE);
        x.fault(0, DEAD);
        is("entered at 0, so not at 1", x.differencesAt(1), 1);
        is("nor at 4", x.differencesAt(4), 1);
        is("did not leave at 0", x.differencesAt(0), 1);
        x.fault(0, DEAD);
        x.fault(0, LOOSE);
        x.add(0, 2, 0, 3);
        is("just from the switch", x.differencesAt(3), 1);
        is("just from the switch, native", x.differencesAt(2), 1);
        is("just from the switch, tagged", x.differencesAt(4), 1);
        is("not at the others", x.differencesAt(1), 0);
        x.clear();
        x.fault(4, BARE);
        x.add(0, 0, 0, 3);
        is("the first frame", x.differencesAt(4), 1);
        x.clear();
        is("no frames any more", x.differencesAt(4), 0);
        int[] far = {-1, 6, Integer.MIN_VALUE, Integer.MAX_VALUE};
        for (int port : far) {
            fails("port " + port, INDEX, () -> x.differencesAt(port));
        }
        x.begin(2);
        fails("port 2 of 2", INDEX, () -> x.differencesAt(2));
        is("port 1 of 2", x.differencesAt(1), 0);
    }

    private static void promise22Blame() {
        promise = 22;
        VlanProbe x = new VlanProbe();
        x.fault(0, DEAD);
        is("no frames", x.blame(), 0);
        x.add(0, 0, 0, 3);
        x.add(1, 0, 1, 3);
        x.add(2, 0, 2, 3);
        is("one fault", x.blame(), 1);
        x.fault(1, DEAD);
        is("two faults", x.blame(), 2);
        x.fault(2, DEAD);
        is("three faults, that no two explain", blameOfNone(x), VlanProbe.NONE);
        x.fault(0, DEAD);
        is("two others", x.blame(), 2);
        x.fault(1, DEAD);
        x.fault(2, DEAD);
        is("none any more", x.blame(), 0);
        x.fault(3, BARE);
        is("one that does not show", x.blame(), 0);
    }

    private static int blameOfNone(VlanProbe x) {
        is("no explanations", x.explanations(), 0);
        fails("blamed(0) without one", INDEX, () -> x.blamed(0));
        fails("blamed(-1) without one", INDEX, () -> x.blamed(-1));
        return x.blame();
    }

    private static void promise23Blamed() {
        promise = 23;
        VlanProbe x = new VlanProbe();
        fails("of none", INDEX, () -> x.blamed(0));
        x.add(0, 0, 0, 3);
        x.add(1, 0, 1, 3);
        x.add(2, 0, 2, 3);
        x.add(3, 0, 2, 3);
        x.fault(2, DEAD);
        is("port 2 is dead", x.blamed(0), 20);
        int[] notOne = {1, 2, -1, Integer.MIN_VALUE, Integer.MAX_VALUE};
        for (int place : notOne) {
            fails("blamed(" + place + ")", INDEX, () -> x.blamed(place));
        }
        x.fault(1, STRICT);
        is("the first of two", x.blamed(0), 13);
        is("the second of two", x.blamed(1), 20);
        int[] notTwo = {2, 3, -1, Integer.MIN_VALUE, Integer.MAX_VALUE};
        for (int place : notTwo) {
            fails("blamed(" + place + ")", INDEX, () -> x.blamed(place));
        }
        x.clear();
        x.fault(1, STRICT);
        x.fault(2, DEAD);
        x.add(3, 0, 2, 3);
        x.fault(3, STRICT);
        is("dead is lower than strict", x.blamed(0), 30);
        looseAndStrict();
    }

    private static void looseAndStrict() {
        VlanProbe x = new VlanProbe();
        x.begin(6);
        x.add(5, 2, 0, 3);
        x.add(5, 0, 0, 3);
        x.access(4, 2);
        x.fault(5, LOOSE);
        is("the highest number", x.blamed(0), 54);
        x.fault(5, STRICT);
        is("two of one port", x.blame(), 2);
        is("the lower one of the port", x.blamed(0), 53);
        is("the higher one of the port", x.blamed(1), 54);
        is("each two are counted once", x.explanations(), 1);
    }

    private static void promise24Explanations() {
        promise = 24;
        VlanProbe x = new VlanProbe();
        is("no frames: no fault explains it", x.explanations(), 1);
        x.fault(0, DEAD);
        is("still no fault", x.explanations(), 1);
        x.add(0, 0, 0, 3);
        is("dead or strict", x.explanations(), 2);
        x.add(1, 0, 0, 3);
        is("dead alone", x.explanations(), 1);
        x.fault(1, DEAD);
        is("dead at 0 and 1", x.blame(), 2);
        x.clear();
        x.add(0, 0, 0, 3);
        x.add(1, 0, 0, 3);
        x.fault(0, DEAD);
        x.fault(1, DEAD);
        x.fault(0, STRICT);
        x.fault(1, STRICT);
        is("strict at 0 and 1", x.blame(), 2);
        is("dead or strict at each, for no frame was to leave there", x.explanations(), 4);
        is("the lowest of them", 100 * x.blamed(0) + x.blamed(1), 10);
        x.add(2, 0, 0, 3);
        is("a frame that leaves at both rules dead out", x.explanations(), 1);
        is("strict and strict", 100 * x.blamed(0) + x.blamed(1), 313);
        x.begin(6);
        x.add(0, 0, 0, 3);
        x.add(1, 0, 1, 0);
        x.fault(0, DEAF);
        is("deaf at the first of six ports", x.explanations(), 1);
        x.fault(5, DEAD);
        is("and dead at the last", x.explanations(), 1);
        is("both are told", 100 * x.blamed(0) + x.blamed(1), 150);
    }

    private static void answersFollowEveryChange() {
        promise = 0;
        VlanProbe x = new VlanProbe();
        x.add(0, 0, 0, 3);
        is("at first", x.expected(0) + x.blame(), 14);
        x.access(2, 3);
        is("after access", x.expected(0), 10);
        x.trunk(2, 1, 0);
        is("after trunk", 100 * x.expected(0) + x.expectedTagged(0), 1404);
        x.fault(2, BARE);
        is("after fault", 100 * x.blame() + x.blamed(0), 122);
        x.add(2, 1, 1, 0);
        is("after add", x.expected(1) + x.learned(1, 1), 3);
        is("ahead of clear", x.blame(), 1);
        x.clear();
        is("after clear", x.blame() + x.differing(), 0);
        is("learned after clear", x.learned(1, 1), VlanProbe.NONE);
        x.cover();
        is("after cover", x.blame(), 1);
        x.begin(2);
        is("after begin", x.blame() + x.differing(), 0);
    }

    // ---- what the tests share

    /** Six ports: 0 and 1 access 1, 2 trunk {2, 3} native 2, 3 access 2, 4 trunk {1..4}, 5 access 3. */
    private static VlanProbe mixed() {
        VlanProbe x = new VlanProbe();
        x.begin(6);
        x.trunk(2, 6, 2);
        x.access(3, 2);
        x.trunk(4, 15, 0);
        x.access(5, 3);
        return x;
    }

    private static void isWithoutFaults(VlanProbe x) {
        for (int port = 0; port < x.ports(); port++) {
            for (int kind = DEAD; kind <= LOOSE; kind++) {
                is("fault " + kind + " of " + port, x.fault(port, kind) ? 1 : 0, 1);
                x.fault(port, kind);
            }
        }
    }

    private static void isAccessOf1(VlanProbe x, int port) {
        int others = (1 << x.ports()) - 1 & ~(1 << port);
        int untagged = x.add(port, 0, 0, 3);
        is("untagged at " + port, x.expected(untagged), others);
        is("untagged from " + port, x.expectedTagged(untagged), 0);
        is("seen from " + port, x.seen(untagged), others);
        int tagged = x.add(port, 1, 0, 3);
        is("tagged at " + port, x.reason(tagged), VlanProbe.TAGGED);
    }

    private interface FrameCall {
        int of(int frame);
    }

    private static void noFrame(String name, int frames, FrameCall call) {
        int[] none = {-1, frames, frames + 1, 60, Integer.MIN_VALUE, Integer.MAX_VALUE};
        for (int frame : none) {
            fails(name + "(" + frame + ")", INDEX, () -> call.of(frame));
        }
    }

    private static void is(String what, long got, long due) {
        if (got != due) {
            wrong++;
            System.out.println("promise " + promise + ", " + what + ": answered " + got + ", due is " + due);
        }
    }

    private static void fails(String what, String due, Call call) {
        String got = "nothing";
        try {
            call.run();
        } catch (RuntimeException e) {
            got = e.getClass().getSimpleName();
        }
        if (!got.equals(due)) {
            wrong++;
            System.out.println("promise " + promise + ", " + what + ": threw " + got + ", due is " + due);
        }
    }
}
