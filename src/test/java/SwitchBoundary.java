/** The sentences of the promises 1 to 6: the switch. */
final class SwitchBoundary {
    private static final String NO_PORT = "Throws `IndexOutOfBoundsException` if there is no such port";
    private static final String NO_FAULTS = ", faults";

    private final Sheet sheet;

    SwitchBoundary(Sheet sheet) {
        this.sheet = sheet;
    }

    void list() {
        listNewAndBegin();
        sheet.place("Promise 4: access");
        sheet.test("Makes a port an ACCESS port.", this::makesAccess);
        sheet.test("`port`: the port", this::accessOfThePort);
        sheet.test("`network`: 1 to 4", this::accessNetworks);
        sheet.test(NO_PORT, this::accessWithoutPort);
        sheet.test("Throws `IllegalArgumentException` if network is out of its range", this::accessFarNetworks);
        sheet.place("Promise 5: trunk");
        sheet.test("Makes a port a TRUNK port.", this::makesTrunk);
        sheet.test("`port`: the port", this::trunkOfThePort);
        sheet.test("`networks`: the networks to which it belongs, 1 to 15", this::trunkNetworks);
        sheet.test("`ownOne`: its native network, one of these; 0 for none", this::trunkNatives);
        sheet.test(NO_PORT, this::trunkWithoutPort);
        sheet.test("Throws `IllegalArgumentException` if networks is out of its range,", this::trunkFarNetworks);
        sheet.test("or ownOne is neither 0 nor one of these", this::trunkFarNatives);
        sheet.place("Promise 6: fault");
        sheet.test("Gives a port a fault,", this::givesFault);
        sheet.test("or takes it away, if it has it.", this::takesFault);
        sheet.test("`port`: the port", this::faultOfThePort);
        sheet.test("`fault`: DEAD, DEAF, BARE, STRICT or LOOSE", this::faultKinds);
        sheet.test("Returns whether the port has it then.", this::hasFaultThen);
        sheet.test(NO_PORT, this::faultWithoutPort);
        sheet.test("Throws `IllegalArgumentException` if fault is none of these", this::farFaults);
    }

    private void listNewAndBegin() {
        sheet.place("Promise 1: A new object");
        sheet.test("A switch with 4 ports,", this::newHasFourPorts);
        sheet.test("which are ACCESS ports of the network 1,", this::newHasAccessPorts);
        sheet.test("without faults;", this::newHasNoFaults);
        sheet.test("the list of frames is empty.", this::newHasNoFrames);
        sheet.place("Promise 2: begin");
        sheet.test("Begins anew with another switch, as at first, but with some number of ports;", this::beginsAnew);
        sheet.test("the list of frames is empty then.", this::beginsWithoutFrames);
        sheet.test("`ports`: 2 to 6", this::beginsWithPorts);
        sheet.test("Throws `IllegalArgumentException` if ports is out of its range", this::beginsNotSo);
        sheet.place("Promise 3: ports");
        sheet.test("Returns the number of ports.", this::numberOfPorts);
    }

    // ---- promise 1

    private void newHasFourPorts() {
        new VlanProbe().begin(6);
        VlanProbe x = new VlanProbe();
        sheet.is("ports", x.ports(), 4);
        sheet.is("a frame at the last port", x.add(3, 0, 0, 3), 0);
        sheet.is("leaves at all others", x.expected(0), 0b0111);
        for (int port : Sheet.outside(0, 3)) {
            sheet.refused("add(" + port + ", 0, 0, 3)", Sheet.INDEX, () -> x.add(port, 0, 0, 3));
        }
    }

    private void newHasAccessPorts() {
        areAccessOf1(new VlanProbe(), 4);
        Probes.busy();
        areAccessOf1(new VlanProbe(), 4);
    }

    private void newHasNoFaults() {
        Probes.busy();
        VlanProbe x = new VlanProbe();
        x.cover();
        sheet.is("differing", x.differing(), 0);
        sheet.same("the faults", Probes.faultsOf(x), NO_FAULTS);
    }

    private void newHasNoFrames() {
        Probes.busy();
        isWithoutFrames(new VlanProbe());
    }

    // ---- promise 2

    private void beginsAnew() {
        for (int ports = 2; ports <= 6; ports++) {
            VlanProbe x = Probes.busy();
            for (int number = 0; number < 30; number++) {
                x.fault(number / 5, number % 5);
            }
            x.begin(ports);
            sheet.same("the faults", Probes.faultsOf(x), NO_FAULTS);
            areAccessOf1(x, ports);
            x.begin(6);
            sheet.same("the faults of ports that there were", Probes.faultsOf(x), NO_FAULTS);
            areAccessOf1(x, 6);
        }
        VlanProbe same = Probes.busy();
        sheet.is("asked ahead", same.blame() == 2 && same.learned(2, 0) == 4, true);
        same.begin(4);
        sheet.same("all of it", Probes.stateOf(same), Probes.stateOf(new VlanProbe()));
        VlanProbe other = Probes.trunks(4);
        other.fault(3, VlanProbe.LOOSE);
        other.begin(4);
        sheet.same("with as many ports as ahead", Probes.stateOf(other), Probes.stateOf(new VlanProbe()));
    }

    private void beginsWithoutFrames() {
        VlanProbe x = new VlanProbe();
        x.begin(5);
        isWithoutFrames(x);
        Probes.fill(x, 60, 4, 0, 0, 3);
        x.begin(5);
        isWithoutFrames(x);
        x.fault(3, VlanProbe.DEAD);
        x.add(4, 0, 2, 3);
        sheet.is("asked ahead", x.learned(1, 2), 4);
        sheet.is("asked ahead", x.explanations(), 1);
        x.begin(5);
        isWithoutFrames(x);
    }

    private void beginsWithPorts() {
        VlanProbe x = new VlanProbe();
        for (int ports : new int[] {2, 6, 3, 5, 4, 2}) {
            x.begin(ports);
            sheet.is("ports", x.ports(), ports);
            sheet.is("a frame at the last one", x.add(ports - 1, 0, 0, 3), 0);
            sheet.is("leaves at all others", x.expected(0), (1 << (ports - 1)) - 1);
            sheet.refused("one behind the last one", Sheet.INDEX, () -> x.add(ports, 0, 0, 3));
        }
    }

    private void beginsNotSo() {
        for (int ports : Sheet.outside(2, 6)) {
            sheet.refused("begin(" + ports + ")", Sheet.ARGUMENT, () -> new VlanProbe().begin(ports));
        }
        sheet.changesNothing(Probes.busy(), "begin(1)", Sheet.ARGUMENT, x -> x.begin(1));
        sheet.changesNothing(Probes.busy(), "begin(7)", Sheet.ARGUMENT, x -> x.begin(7));
    }

    // ---- promise 3

    private void numberOfPorts() {
        VlanProbe x = new VlanProbe();
        sheet.is("at first", x.ports(), 4);
        for (int ports = 2; ports <= 6; ports++) {
            x.begin(ports);
            sheet.is("begun", x.ports(), ports);
            x.trunk(ports - 1, 15, 1);
            x.fault(0, VlanProbe.DEAD);
            x.cover();
            x.clear();
            sheet.is("after other calls", x.ports(), ports);
            sheet.refused("begin(7)", Sheet.ARGUMENT, () -> x.begin(7));
            sheet.is("after a throw", x.ports(), ports);
        }
    }

    // ---- promise 4

    private void makesAccess() {
        VlanProbe x = Probes.trunks(2);
        x.fault(0, VlanProbe.BARE);
        x.add(0, 0, 0, 3);
        x.add(0, 2, 1, 3);
        x.add(1, 2, 2, 3);
        x.access(0, 2);
        sheet.is("untagged gets in", x.expected(0), 0b10);
        sheet.is("tagged does not", x.reason(1), VlanProbe.TAGGED);
        sheet.is("leaves there", x.expected(2), 0b01);
        sheet.is("untagged", x.expectedTagged(2), 0);
        x.access(0, 2);
        sheet.is("once more", x.expected(0), 0b10);
        sheet.is("the frames stay", x.frames(), 3);
        sheet.same("the faults stay", Probes.faultsOf(x), NO_FAULTS + " 2");
    }

    private void accessOfThePort() {
        for (int ports = 2; ports <= 6; ports++) {
            for (int port = 0; port < ports; port++) {
                VlanProbe x = Probes.of(ports);
                x.access(port, 2);
                for (int from = 0; from < ports; from++) {
                    x.add(from, 0, 0, 3);
                    int others = (1 << ports) - 1 - (1 << port) & ~(1 << from);
                    sheet.is("only " + port + " of " + ports + " is another's", x.expected(from),
                            from == port ? 0 : others);
                }
            }
        }
    }

    private void accessNetworks() {
        for (int network = 1; network <= 4; network++) {
            VlanProbe x = Probes.trunks(2);
            x.access(0, network);
            x.add(0, 0, 1, 3);
            sheet.is("learned in its network", x.learned(network, 1), 0);
        }
    }

    private void accessWithoutPort() {
        for (int ports = 2; ports <= 6; ports++) {
            VlanProbe x = Probes.of(ports);
            for (int port : Sheet.outside(0, ports - 1)) {
                sheet.refused("access(" + port + ", 1) of " + ports, Sheet.INDEX, () -> x.access(port, 1));
            }
        }
        sheet.changesNothing(Probes.busy(), "access(6, 3)", Sheet.INDEX, x -> x.access(6, 3));
        sheet.changesNothing(Probes.busy(), "access(-1, 3)", Sheet.INDEX, x -> x.access(-1, 3));
    }

    private void accessFarNetworks() {
        VlanProbe x = new VlanProbe();
        for (int network : Sheet.outside(1, 4)) {
            sheet.refused("access(3, " + network + ")", Sheet.ARGUMENT, () -> x.access(3, network));
        }
        sheet.changesNothing(Probes.busy(), "access(4, 0)", Sheet.ARGUMENT, y -> y.access(4, 0));
        sheet.changesNothing(Probes.busy(), "access(0, 5)", Sheet.ARGUMENT, y -> y.access(0, 5));
    }

    // ---- promise 5

    private void makesTrunk() {
        VlanProbe x = Probes.of(2);
        x.fault(0, VlanProbe.BARE);
        x.trunk(1, 15, 0);
        x.add(0, 0, 0, 3);
        x.add(0, 2, 1, 3);
        x.add(1, 2, 2, 3);
        x.trunk(0, 2, 0);
        sheet.is("untagged does not get in", x.reason(0), VlanProbe.UNTAGGED);
        sheet.is("tagged does", x.expected(1), 0b10);
        sheet.is("leaves there", x.expected(2), 0b01);
        sheet.is("tagged", x.expectedTagged(2), 0b01);
        x.trunk(0, 6, 3);
        sheet.is("once more, with a native one", x.learned(3, 0), 0);
        x.trunk(0, 6, 0);
        sheet.is("once more, without", x.reason(0), VlanProbe.UNTAGGED);
        sheet.is("the frames stay", x.frames(), 3);
        sheet.same("the faults stay", Probes.faultsOf(x), NO_FAULTS + " 2");
    }

    private void trunkOfThePort() {
        for (int ports = 2; ports <= 6; ports++) {
            for (int port = 0; port < ports; port++) {
                VlanProbe x = Probes.of(ports);
                x.trunk(port, 2, 0);
                for (int from = 0; from < ports; from++) {
                    x.add(from, 0, 0, 3);
                    int others = (1 << ports) - 1 - (1 << port) & ~(1 << from);
                    sheet.is("only " + port + " of " + ports + " is another's", x.expected(from),
                            from == port ? 0 : others);
                    sheet.is("and a TRUNK port", x.reason(from) == VlanProbe.UNTAGGED, from == port);
                }
            }
        }
    }

    private void trunkNetworks() {
        for (int set = 1; set <= 15; set++) {
            VlanProbe x = Probes.trunks(2);
            x.trunk(0, set, 0);
            for (int tag = 1; tag <= 4; tag++) {
                x.add(0, tag, 0, 3);
                sheet.is("tag " + tag + " of the set " + set, x.reason(tag - 1),
                        (set >> (tag - 1)) % 2 == 1 ? VlanProbe.LEAVES : VlanProbe.FOREIGN);
            }
        }
    }

    private void trunkNatives() {
        for (int set = 1; set <= 15; set++) {
            for (int own = 0; own <= 4; own++) {
                if (own == 0 || (set >> (own - 1)) % 2 == 1) {
                    VlanProbe x = Probes.trunks(2);
                    x.trunk(0, set, own);
                    x.add(0, 0, 0, 3);
                    sheet.is("native " + own + " of the set " + set, x.reason(0),
                            own == 0 ? VlanProbe.UNTAGGED : VlanProbe.LEAVES);
                    sheet.is("its network", own == 0 ? 0 : x.learned(own, 0), 0);
                }
            }
        }
    }

    private void trunkWithoutPort() {
        for (int ports = 2; ports <= 6; ports++) {
            VlanProbe x = Probes.of(ports);
            for (int port : Sheet.outside(0, ports - 1)) {
                sheet.refused("trunk(" + port + ", 1, 1) of " + ports, Sheet.INDEX, () -> x.trunk(port, 1, 1));
            }
        }
        sheet.changesNothing(Probes.busy(), "trunk(6, 15, 1)", Sheet.INDEX, x -> x.trunk(6, 15, 1));
        sheet.changesNothing(Probes.busy(), "trunk(-1, 15, 1)", Sheet.INDEX, x -> x.trunk(-1, 15, 1));
    }

    private void trunkFarNetworks() {
        VlanProbe x = new VlanProbe();
        for (int set : Sheet.outside(1, 15)) {
            sheet.refused("trunk(3, " + set + ", 0)", Sheet.ARGUMENT, () -> x.trunk(3, set, 0));
            sheet.refused("trunk(3, " + set + ", 1)", Sheet.ARGUMENT, () -> x.trunk(3, set, 1));
            sheet.refused("trunk(3, " + set + ", 4)", Sheet.ARGUMENT, () -> x.trunk(3, set, 4));
        }
        sheet.changesNothing(Probes.busy(), "trunk(4, 0, 0)", Sheet.ARGUMENT, y -> y.trunk(4, 0, 0));
        sheet.changesNothing(Probes.busy(), "trunk(0, 31, 1)", Sheet.ARGUMENT, y -> y.trunk(0, 31, 1));
    }

    private void trunkFarNatives() {
        for (int set : new int[] {1, 8, 15}) {
            VlanProbe x = new VlanProbe();
            for (int own : Sheet.outside(0, 4)) {
                sheet.refused("trunk(3, " + set + ", " + own + ")", Sheet.ARGUMENT, () -> x.trunk(3, set, own));
            }
        }
        for (int set = 1; set <= 14; set++) {
            for (int own = 1; own <= 4; own++) {
                if ((set >> (own - 1)) % 2 == 0) {
                    int theSet = set;
                    int theOwn = own;
                    sheet.refused("trunk(3, " + set + ", " + own + ")", Sheet.ARGUMENT,
                            () -> new VlanProbe().trunk(3, theSet, theOwn));
                }
            }
        }
        sheet.changesNothing(Probes.busy(), "trunk(0, 15, 5)", Sheet.ARGUMENT, y -> y.trunk(0, 15, 5));
        sheet.changesNothing(Probes.busy(), "trunk(4, 14, 1)", Sheet.ARGUMENT, y -> y.trunk(4, 14, 1));
    }

    // ---- promise 6

    private void givesFault() {
        VlanProbe x = new VlanProbe();
        x.add(0, 0, 0, 3);
        sheet.is("given", x.fault(0, VlanProbe.DEAD), true);
        sheet.is("it acts", x.seen(0), 0);
        sheet.is("another beside it", x.fault(0, VlanProbe.BARE), true);
        sheet.is("the same one of another port", x.fault(3, VlanProbe.DEAD), true);
        sheet.same("the faults", Probes.faultsOf(x), NO_FAULTS + " 0 2 30");
    }

    private void takesFault() {
        VlanProbe x = new VlanProbe();
        x.add(0, 0, 0, 3);
        x.fault(0, VlanProbe.DEAD);
        x.fault(0, VlanProbe.STRICT);
        x.fault(3, VlanProbe.DEAD);
        sheet.is("taken", x.fault(0, VlanProbe.DEAD), false);
        sheet.same("the other ones stay", Probes.faultsOf(x), NO_FAULTS + " 3 30");
        sheet.is("taken", x.fault(0, VlanProbe.STRICT), false);
        sheet.is("it does not act", x.seen(0), 0b0110);
        sheet.is("taken", x.fault(3, VlanProbe.DEAD), false);
        sheet.same("none is left", Probes.faultsOf(x), NO_FAULTS);
        sheet.is("given again", x.fault(3, VlanProbe.DEAD), true);
    }

    private void faultOfThePort() {
        for (int ports = 2; ports <= 6; ports++) {
            for (int port = 0; port < ports; port++) {
                VlanProbe x = Probes.of(ports);
                x.fault(port, VlanProbe.DEAD);
                for (int from = 0; from < ports; from++) {
                    x.add(from, 0, 0, 3);
                    int others = (1 << ports) - 1 - (1 << port) & ~(1 << from);
                    sheet.is("only " + port + " of " + ports + " is dead", x.seen(from),
                            from == port ? 0 : others);
                }
            }
        }
    }

    private void faultKinds() {
        for (int port = 0; port <= 5; port++) {
            for (int kind = 0; kind <= 4; kind++) {
                VlanProbe x = Probes.of(6);
                sheet.is("given", x.fault(port, kind), true);
                sheet.same("the faults", Probes.faultsOf(x), NO_FAULTS + " " + (10 * port + kind));
            }
        }
    }

    private void hasFaultThen() {
        VlanProbe x = Probes.of(6);
        for (int time = 0; time < 4; time++) {
            for (int number = 0; number < 30; number++) {
                sheet.is("time " + time, x.fault(number / 5, number % 5), time % 2 == 0);
            }
        }
    }

    private void faultWithoutPort() {
        for (int ports = 2; ports <= 6; ports++) {
            VlanProbe x = Probes.of(ports);
            for (int port : Sheet.outside(0, ports - 1)) {
                sheet.refused("fault(" + port + ", 0) of " + ports, Sheet.INDEX, () -> x.fault(port, 0));
                sheet.refused("fault(" + port + ", 4) of " + ports, Sheet.INDEX, () -> x.fault(port, 4));
            }
        }
        sheet.changesNothing(Probes.busy(), "fault(6, 0)", Sheet.INDEX, x -> x.fault(6, 0));
        sheet.changesNothing(Probes.busy(), "fault(-1, 4)", Sheet.INDEX, x -> x.fault(-1, 4));
    }

    private void farFaults() {
        VlanProbe x = new VlanProbe();
        for (int kind : Sheet.outside(0, 4)) {
            sheet.refused("fault(0, " + kind + ")", Sheet.ARGUMENT, () -> x.fault(0, kind));
            sheet.refused("fault(3, " + kind + ")", Sheet.ARGUMENT, () -> x.fault(3, kind));
        }
        sheet.changesNothing(Probes.busy(), "fault(1, 5)", Sheet.ARGUMENT, y -> y.fault(1, 5));
        sheet.changesNothing(Probes.busy(), "fault(1, -1)", Sheet.ARGUMENT, y -> y.fault(1, -1));
    }

    // ---- what they share

    private void areAccessOf1(VlanProbe x, int ports) {
        for (int port = 0; port < ports; port++) {
            int others = (1 << ports) - 1 & ~(1 << port);
            x.clear();
            x.add(port, 0, 0, 3);
            x.add(port, 1, 1, 3);
            sheet.is("untagged at " + port, x.expected(0), others);
            sheet.is("untagged from " + port, x.expectedTagged(0), 0);
            sheet.is("in the network 1", x.learned(1, 0), port);
            sheet.is("tagged at " + port, x.reason(1), VlanProbe.TAGGED);
        }
        x.clear();
    }

    private void isWithoutFrames(VlanProbe x) {
        sheet.is("frames", x.frames(), 0);
        sheet.onlyFrames("frameAt", 0, k -> x.frameAt(k));
        sheet.onlyFrames("expected", 0, k -> x.expected(k));
        sheet.onlyFrames("seen", 0, k -> x.seen(k));
        sheet.is("pairs met", x.pairsMet(), 0);
        for (int k = 0; k < 12; k++) {
            sheet.is("learned", x.learned(1 + k / 3, k % 3), VlanProbe.NONE);
        }
        sheet.is("differing", x.differing(), 0);
        sheet.is("differences", x.differencesAt(0), 0);
        sheet.is("blame", x.blame(), 0);
        sheet.is("the first frame's number", x.add(0, 0, 0, 3), 0);
        x.clear();
    }
}
