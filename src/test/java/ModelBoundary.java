/** The sentences of the promises 14 to 17: what should be. */
final class ModelBoundary {
    private static final String NO_FRAME = "Throws `IndexOutOfBoundsException` if there is no such frame";

    private final Sheet sheet;

    ModelBoundary(Sheet sheet) {
        this.sheet = sheet;
    }

    void list() {
        sheet.place("Promise 14: expected");
        sheet.test("Returns the ports where the model lets a frame leave.", this::whereItLeaves);
        sheet.test("`frame`: its number", this::leavesByNumber);
        sheet.test("Returns the set of ports, bit p for the port p;", this::setOfPorts);
        sheet.test("0 if it is dropped.", this::nothingIfDropped);
        sheet.test(NO_FRAME, () -> noSuchFrame("expected", (x, k) -> x.expected(k)));
        sheet.place("Promise 15: expectedTagged");
        sheet.test("Returns those of these ports where it leaves tagged.", this::whereTagged);
        sheet.test("`frame`: its number", this::taggedByNumber);
        sheet.test("Returns the set of ports.", this::setOfTaggedPorts);
        sheet.test(NO_FRAME, () -> noSuchFrame("expectedTagged", (x, k) -> x.expectedTagged(k)));
        sheet.place("Promise 16: reason");
        sheet.test("Returns why the model drops a frame.", this::whyDropped);
        sheet.test("`frame`: its number", this::reasonByNumber);
        sheet.test("Returns TAGGED, UNTAGGED, FOREIGN, LOCAL or NOWHERE;", this::eachReason);
        sheet.test("LEAVES if it does not.", this::leavesIfNotDropped);
        sheet.test(NO_FRAME, () -> noSuchFrame("reason", (x, k) -> x.reason(k)));
        sheet.place("Promise 17: learned");
        sheet.test("Returns where the model has learned an address when all frames are run.", this::whereLearned);
        sheet.test("`network`: 1 to 4", this::networks);
        sheet.test("`address`: 0 to 2", this::addresses);
        sheet.test("Returns the port;", this::eachPort);
        sheet.test("NONE if it has not learned it in this network.", this::notLearned);
        sheet.test("Throws `IllegalArgumentException` if network or address is out of its range", this::farOnes);
    }

    // ---- promise 14

    private void whereItLeaves() {
        VlanProbe x = Probes.mixed();
        x.add(0, 0, 0, 3);
        x.add(4, 2, 1, 3);
        x.add(1, 0, 2, 0);
        sheet.is("to all of network 1", x.expected(0), 0b010010);
        sheet.is("to all of network 2", x.expected(1), 0b001100);
        sheet.is("to one port", x.expected(2), 0b000001);
        for (int number = 0; number < 30; number++) {
            x.fault(number / 5, number % 5);
        }
        sheet.is("by the model, not by the switch", x.expected(0), 0b010010);
        sheet.is("by the model, to one port", x.expected(2), 0b000001);
    }

    private void leavesByNumber() {
        VlanProbe x = Probes.of(3);
        x.add(0, 0, 0, 3);
        sheet.is("the first is the last", x.expected(0), 0b110);
        Probes.fill(x, 59, 1, 0, 0, 3);
        x.add(2, 0, 0, 3);
        sheet.is("frame 0", x.expected(0), 0b110);
        sheet.is("frame 1", x.expected(1), 0b101);
        sheet.is("frame 58", x.expected(58), 0b101);
        sheet.is("frame 59", x.expected(59), 0b011);
    }

    private void setOfPorts() {
        for (int port = 0; port <= 5; port++) {
            VlanProbe x = Probes.of(6);
            x.access(port, 2);
            int from = (port + 1) % 6;
            x.access(from, 2);
            x.add(from, 0, 0, 3);
            sheet.is("port " + port + " alone", x.expected(0), 1 << port);
            x.add((port + 2) % 6, 0, 0, 3);
            int others = 63 - (1 << port) - (1 << from) - (1 << (port + 2) % 6);
            sheet.is("three of six", x.expected(1), others);
        }
        VlanProbe all = Probes.of(6);
        all.add(0, 0, 0, 3);
        all.add(5, 0, 0, 3);
        sheet.is("all but the first", all.expected(0), 0b111110);
        sheet.is("all but the last", all.expected(1), 0b011111);
    }

    private void nothingIfDropped() {
        VlanProbe x = reasons();
        for (int k = 0; k < 6; k++) {
            sheet.is("frame " + k, x.expected(k), k == 0 ? 0b010010 : 0);
        }
    }

    // ---- promise 15

    private void whereTagged() {
        VlanProbe x = Probes.mixed();
        x.add(0, 0, 0, 3);
        x.add(5, 0, 0, 3);
        x.add(4, 2, 1, 3);
        x.add(1, 0, 1, 0);
        sheet.is("of 1 and 4, at 4", x.expectedTagged(0), 0b010000);
        sheet.is("of 2 and 4, at both", x.expectedTagged(1), 0b010100);
        sheet.is("of 2, where it is native, and 3, at none", x.expectedTagged(2), 0);
        sheet.is("at one ACCESS port", x.expectedTagged(3), 0);
        for (int port = 0; port <= 5; port++) {
            x.fault(port, VlanProbe.BARE);
        }
        sheet.is("by the model, not by the switch", x.expectedTagged(1), 0b010100);
    }

    private void taggedByNumber() {
        VlanProbe x = Probes.trunks(3);
        x.add(0, 1, 0, 3);
        sheet.is("the first is the last", x.expectedTagged(0), 0b110);
        Probes.fill(x, 59, 1, 1, 0, 3);
        x.add(2, 1, 0, 3);
        sheet.is("frame 0", x.expectedTagged(0), 0b110);
        sheet.is("frame 1", x.expectedTagged(1), 0b101);
        sheet.is("frame 58", x.expectedTagged(58), 0b101);
        sheet.is("frame 59", x.expectedTagged(59), 0b011);
    }

    private void setOfTaggedPorts() {
        for (int port = 0; port <= 5; port++) {
            VlanProbe x = Probes.of(6);
            x.trunk(port, 3, 0);
            int from = (port + 1) % 6;
            x.add(from, 0, 0, 3);
            sheet.is("port " + port + " alone", x.expectedTagged(0), 1 << port);
        }
        VlanProbe all = Probes.trunks(6);
        all.add(0, 4, 0, 3);
        all.add(5, 4, 0, 3);
        sheet.is("all but the first", all.expectedTagged(0), 0b111110);
        sheet.is("all but the last", all.expectedTagged(1), 0b011111);
        VlanProbe dropped = reasons();
        for (int k = 1; k < 6; k++) {
            sheet.is("none, for it is dropped", dropped.expectedTagged(k), 0);
        }
        VlanProbe access = Probes.of(6);
        access.add(0, 0, 0, 3);
        sheet.is("none of five ACCESS ports", access.expectedTagged(0), 0);
    }

    // ---- promise 16

    /** The mixed one; frame k is dropped for the reason k. */
    private static VlanProbe reasons() {
        VlanProbe x = Probes.mixed();
        x.add(0, 0, 0, 3);
        x.add(0, 1, 0, 3);
        x.add(4, 0, 0, 3);
        x.add(2, 4, 0, 3);
        x.add(0, 0, 1, 0);
        x.add(4, 4, 0, 3);
        return x;
    }

    private void whyDropped() {
        VlanProbe x = reasons();
        for (int k = 0; k < 6; k++) {
            sheet.is("frame " + k, x.reason(k), k);
        }
        for (int port = 0; port <= 5; port++) {
            x.fault(port, VlanProbe.DEAD);
            x.fault(port, VlanProbe.LOOSE);
        }
        for (int k = 0; k < 6; k++) {
            sheet.is("by the model, not by the switch, frame " + k, x.reason(k), k);
        }
    }

    private void reasonByNumber() {
        VlanProbe x = Probes.trunks(3);
        x.add(0, 0, 0, 3);
        sheet.is("the first is the last", x.reason(0), VlanProbe.UNTAGGED);
        Probes.fill(x, 59, 1, 1, 0, 3);
        x.add(1, 1, 0, 0);
        sheet.is("frame 0", x.reason(0), VlanProbe.UNTAGGED);
        sheet.is("frame 1", x.reason(1), VlanProbe.LEAVES);
        sheet.is("frame 58", x.reason(58), VlanProbe.LEAVES);
        sheet.is("frame 59", x.reason(59), VlanProbe.LOCAL);
    }

    private void eachReason() {
        VlanProbe x = reasons();
        sheet.is("a tagged one at an ACCESS port", x.reason(1), VlanProbe.TAGGED);
        sheet.is("an untagged one without a native network", x.reason(2), VlanProbe.UNTAGGED);
        sheet.is("one of another network", x.reason(3), VlanProbe.FOREIGN);
        sheet.is("one to its own port", x.reason(4), VlanProbe.LOCAL);
        sheet.is("one without other ports", x.reason(5), VlanProbe.NOWHERE);
        x.add(5, 0, 0, 0);
        sheet.is("to its own source", x.reason(6), VlanProbe.LOCAL);
        x.add(4, 4, 1, 0);
        sheet.is("to its own port, where there are no others", x.reason(7), VlanProbe.LOCAL);
        x.add(4, 4, 1, 2);
        sheet.is("to one that was not learned, where there are no others", x.reason(8), VlanProbe.NOWHERE);
    }

    private void leavesIfNotDropped() {
        VlanProbe x = reasons();
        sheet.is("to all", x.reason(0), VlanProbe.LEAVES);
        sheet.is("to one that was not learned", x.reason(x.add(1, 0, 0, 2)), VlanProbe.LEAVES);
        sheet.is("to one that was learned elsewhere", x.reason(x.add(1, 0, 2, 1)), VlanProbe.LEAVES);
        VlanProbe y = Probes.of(2);
        y.add(0, 0, 0, 3);
        sheet.is("to one port", y.reason(0), VlanProbe.LEAVES);
        y.fault(0, VlanProbe.DEAD);
        y.fault(1, VlanProbe.DEAD);
        sheet.is("though the switch drops it", y.reason(0), VlanProbe.LEAVES);
    }

    // ---- promise 17

    private void whereLearned() {
        VlanProbe x = Probes.of(6);
        x.add(3, 0, 0, 3);
        sheet.is("by the one frame", x.learned(1, 0), 3);
        Probes.fill(x, 59, 1, 0, 0, 3);
        sheet.is("by frame 58", x.learned(1, 0), 1);
        x.add(5, 0, 0, 3);
        sheet.is("by frame 59", x.learned(1, 0), 5);
        sheet.is("asked again", x.learned(1, 0), 5);
        x.fault(5, VlanProbe.DEAD);
        x.fault(5, VlanProbe.DEAF);
        sheet.is("by the model, not by the switch", x.learned(1, 0), 5);
        x.expected(0);
        sheet.is("when all are run, not the one that was asked", x.learned(1, 0), 5);
        x.clear();
        sheet.is("without frames", x.learned(1, 0), VlanProbe.NONE);
    }

    private void networks() {
        VlanProbe x = Probes.trunks(5);
        for (int network = 1; network <= 4; network++) {
            x.add(network, network, 0, 3);
        }
        for (int network = 1; network <= 4; network++) {
            sheet.is("in " + network, x.learned(network, 0), network);
        }
    }

    private void addresses() {
        VlanProbe x = Probes.trunks(5);
        for (int address = 0; address <= 2; address++) {
            x.add(address + 1, 1, address, 3);
            x.add(address + 2, 4, address, 3);
        }
        for (int address = 0; address <= 2; address++) {
            sheet.is(address + " in the first network", x.learned(1, address), address + 1);
            sheet.is(address + " in the last network", x.learned(4, address), address + 2);
        }
    }

    private void eachPort() {
        for (int port = 0; port <= 5; port++) {
            VlanProbe x = Probes.of(6);
            x.add(port, 0, 2, 3);
            sheet.is("at " + port, x.learned(1, 2), port);
        }
    }

    private void notLearned() {
        VlanProbe x = Probes.trunks(2);
        for (int k = 0; k < 12; k++) {
            sheet.is("nothing yet", x.learned(1 + k / 3, k % 3), VlanProbe.NONE);
        }
        x.add(0, 2, 1, 0);
        x.add(0, 0, 2, 3);
        for (int k = 0; k < 12; k++) {
            sheet.is("one alone", x.learned(1 + k / 3, k % 3), k == 4 ? 0 : VlanProbe.NONE);
        }
    }

    private void farOnes() {
        VlanProbe x = Probes.busy();
        for (int network : Sheet.outside(1, 4)) {
            sheet.refused("learned(" + network + ", 0)", Sheet.ARGUMENT, () -> x.learned(network, 0));
            sheet.refused("learned(" + network + ", 2)", Sheet.ARGUMENT, () -> x.learned(network, 2));
            sheet.refused("learned(" + network + ", 3)", Sheet.ARGUMENT, () -> x.learned(network, 3));
        }
        for (int address : Sheet.outside(0, 2)) {
            sheet.refused("learned(1, " + address + ")", Sheet.ARGUMENT, () -> x.learned(1, address));
            sheet.refused("learned(4, " + address + ")", Sheet.ARGUMENT, () -> x.learned(4, address));
        }
        VlanProbe empty = new VlanProbe();
        sheet.refused("network 5 without frames", Sheet.ARGUMENT, () -> empty.learned(5, 0));
        sheet.refused("network 0 without frames", Sheet.ARGUMENT, () -> empty.learned(0, 0));
        sheet.refused("address 3 without frames", Sheet.ARGUMENT, () -> empty.learned(1, 3));
        sheet.refused("address -1 without frames", Sheet.ARGUMENT, () -> empty.learned(1, -1));
    }

    // ---- what they share

    private interface NumberCall {
        int of(VlanProbe x, int frame);
    }

    private void noSuchFrame(String name, NumberCall call) {
        VlanProbe x = new VlanProbe();
        for (int frames : new int[] {0, 1, 2, 59, 60}) {
            Probes.fill(x, frames, 0, 0, 0, 3);
            sheet.onlyFrames(name, frames, k -> call.of(x, k));
        }
        x.clear();
        sheet.onlyFrames(name, 0, k -> call.of(x, k));
    }
}
