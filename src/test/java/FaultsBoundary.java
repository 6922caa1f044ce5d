/** The sentences of the promises 18 to 21: what is seen, and how it differs. */
final class FaultsBoundary {
    private static final String NO_FRAME = "Throws `IndexOutOfBoundsException` if there is no such frame";
    private static final int DEAD = VlanProbe.DEAD;
    private static final int DEAF = VlanProbe.DEAF;
    private static final int BARE = VlanProbe.BARE;
    private static final int LOOSE = VlanProbe.LOOSE;

    private final Sheet sheet;

    FaultsBoundary(Sheet sheet) {
        this.sheet = sheet;
    }

    void list() {
        sheet.place("Promise 18: seen");
        sheet.test("Returns the ports where the switch with faults lets a frame leave.", this::whereItLeaves);
        sheet.test("`frame`: its number", this::seenByNumber);
        sheet.test("Returns the set of ports.", this::setOfPorts);
        sheet.test(NO_FRAME, () -> noSuchFrame("seen", (x, k) -> x.seen(k)));
        sheet.place("Promise 19: seenTagged");
        sheet.test("Returns those of these ports where it leaves tagged.", this::whereTagged);
        sheet.test("`frame`: its number", this::taggedByNumber);
        sheet.test("Returns the set of ports.", this::setOfTaggedPorts);
        sheet.test(NO_FRAME, () -> noSuchFrame("seenTagged", (x, k) -> x.seenTagged(k)));
        sheet.place("Promise 20: differing");
        sheet.test("Returns the frames that leave the switch with faults at other ports than the model tells,",
                this::atOtherPorts);
        sheet.test("or tagged at others,", this::taggedAtOthers);
        sheet.test("as a set: bit k for the frame k.", this::bitOfEachFrame);
        sheet.place("Promise 21: differencesAt");
        sheet.test("Returns how many frames show a difference at a port:", this::differencesAtOnePort);
        sheet.test("they leave there just by the model,", this::justByTheModel);
        sheet.test("or just from the switch with faults,", this::justFromTheSwitch);
        sheet.test("or tagged by just one of both.", this::taggedByJustOne);
        sheet.test("`port`: the port", this::eachPort);
        sheet.test("Returns how many.", this::howMany);
        sheet.test("Throws `IndexOutOfBoundsException` if there is no such port", this::noSuchPort);
    }

    // ---- promise 18

    private void whereItLeaves() {
        VlanProbe x = Probes.mixed();
        x.add(0, 0, 0, 3);
        x.add(1, 0, 1, 0);
        sheet.is("without faults", x.seen(0), 0b010010);
        sheet.is("without faults, to one port", x.seen(1), 0b000001);
        x.fault(4, DEAD);
        sheet.is("not at the dead port", x.seen(0), 0b000010);
        x.fault(0, DEAD);
        sheet.is("dropped", x.seen(0), 0);
        sheet.is("was not learned", x.seen(1), 0);
        x.fault(4, DEAD);
        x.fault(0, DEAD);
        sheet.is("without faults again", x.seen(0), 0b010010);
        x.add(0, 3, 0, 3);
        sheet.is("dropped by model and switch", x.seen(2), 0);
        x.fault(0, LOOSE);
        sheet.is("let in", x.seen(2), 0b110100);
    }

    private void seenByNumber() {
        VlanProbe x = Probes.of(3);
        x.fault(1, BARE);
        x.add(0, 0, 0, 3);
        sheet.is("the first is the last", x.seen(0), 0b110);
        Probes.fill(x, 59, 1, 0, 0, 3);
        x.add(2, 0, 0, 3);
        sheet.is("frame 0", x.seen(0), 0b110);
        sheet.is("frame 1", x.seen(1), 0b101);
        sheet.is("frame 58", x.seen(58), 0b101);
        sheet.is("frame 59", x.seen(59), 0b011);
    }

    private void setOfPorts() {
        for (int port = 0; port <= 5; port++) {
            VlanProbe x = Probes.of(6);
            int from = (port + 1) % 6;
            for (int dead = 0; dead <= 5; dead++) {
                if (dead != port && dead != from) {
                    x.fault(dead, DEAD);
                }
            }
            x.add(from, 0, 0, 3);
            sheet.is("port " + port + " alone", x.seen(0), 1 << port);
            x.fault(port, DEAD);
            sheet.is("none", x.seen(0), 0);
        }
        VlanProbe all = Probes.of(6);
        all.fault(2, LOOSE);
        all.add(0, 0, 0, 3);
        all.add(5, 0, 0, 3);
        sheet.is("all but the first", all.seen(0), 0b111110);
        sheet.is("all but the last", all.seen(1), 0b011111);
    }

    // ---- promise 19

    private void whereTagged() {
        VlanProbe x = Probes.mixed();
        x.add(0, 0, 0, 3);
        x.add(5, 0, 0, 3);
        sheet.is("of 1 and 4, at 4", x.seenTagged(0), 0b010000);
        sheet.is("of 2 and 4, at both", x.seenTagged(1), 0b010100);
        x.fault(4, BARE);
        sheet.is("of 1 and 4, at none", x.seenTagged(0), 0);
        sheet.is("of 2 and 4, at 2", x.seenTagged(1), 0b000100);
        x.fault(2, DEAD);
        sheet.is("not where it does not leave", x.seenTagged(1), 0);
        x.add(0, 3, 1, 3);
        sheet.is("dropped", x.seenTagged(2), 0);
        x.fault(0, LOOSE);
        x.fault(2, DEAD);
        sheet.is("let in", x.seenTagged(2), 0b000100);
    }

    private void taggedByNumber() {
        VlanProbe x = Probes.trunks(3);
        x.fault(1, DEAF);
        x.add(0, 1, 0, 3);
        sheet.is("the first is the last", x.seenTagged(0), 0b110);
        Probes.fill(x, 59, 1, 1, 0, 3);
        x.add(2, 1, 0, 3);
        sheet.is("frame 0", x.seenTagged(0), 0b110);
        sheet.is("frame 1", x.seenTagged(1), 0b101);
        sheet.is("frame 58", x.seenTagged(58), 0b101);
        sheet.is("frame 59", x.seenTagged(59), 0b011);
    }

    private void setOfTaggedPorts() {
        for (int port = 0; port <= 5; port++) {
            VlanProbe x = Probes.trunks(6);
            for (int bare = 0; bare <= 5; bare++) {
                if (bare != port) {
                    x.fault(bare, BARE);
                }
            }
            x.add((port + 1) % 6, 4, 0, 3);
            sheet.is("port " + port + " alone", x.seenTagged(0), 1 << port);
            x.fault(port, BARE);
            sheet.is("none", x.seenTagged(0), 0);
        }
        VlanProbe all = Probes.trunks(6);
        all.fault(0, LOOSE);
        all.add(0, 4, 0, 3);
        all.add(5, 4, 0, 3);
        sheet.is("all but the first", all.seenTagged(0), 0b111110);
        sheet.is("all but the last", all.seenTagged(1), 0b011111);
    }

    // ---- promise 20

    private void atOtherPorts() {
        VlanProbe x = Probes.mixed();
        sheet.is("no frames", x.differing(), 0);
        x.fault(1, DEAD);
        sheet.is("no frames, a fault", x.differing(), 0);
        x.add(0, 0, 0, 3);
        x.add(5, 0, 0, 3);
        sheet.is("fewer ports", x.differing(), 0b01);
        x.add(0, 3, 0, 3);
        x.fault(0, LOOSE);
        sheet.is("more ports", x.differing(), 0b101);
        x.fault(0, LOOSE);
        x.fault(1, DEAD);
        sheet.is("the same ports", x.differing(), 0);
        x.fault(0, DEAD);
        sheet.is("dropped by both, though for another reason", x.differing(), 0b001);
    }

    private void taggedAtOthers() {
        VlanProbe x = Probes.mixed();
        x.add(0, 0, 0, 3);
        x.add(4, 2, 0, 3);
        x.add(5, 0, 0, 3);
        x.fault(4, BARE);
        sheet.is("untagged at one", x.differing(), 0b101);
        sheet.is("at the same ports", x.seen(0), x.expected(0));
        x.fault(0, BARE);
        x.fault(1, BARE);
        x.fault(3, BARE);
        sheet.is("untagged where it is so by the model", x.differing(), 0b101);
        x.fault(4, BARE);
        sheet.is("none", x.differing(), 0);
        x.fault(2, BARE);
        sheet.is("untagged where it is so in one network", x.differing(), 0b100);
    }

    private void bitOfEachFrame() {
        for (int differs = 0; differs <= 59; differs++) {
            VlanProbe x = Probes.of(4);
            x.access(2, 2);
            x.access(3, 2);
            x.fault(1, DEAD);
            Probes.fill(x, differs, 2, 0, 0, 3);
            x.add(0, 0, 0, 3);
            Probes.fill(x, 60, 2, 0, 0, 3);
            sheet.is("frame " + differs + " of 60", x.differing(), 1L << differs);
        }
        for (int frames : new int[] {0, 1, 31, 32, 33, 59, 60}) {
            VlanProbe x = Probes.of(2);
            x.fault(1, DEAD);
            Probes.fill(x, frames, 0, 0, 0, 3);
            sheet.is("all of " + frames, x.differing(), Probes.allFrames(frames));
        }
    }

    // ---- promise 21

    private void differencesAtOnePort() {
        VlanProbe x = Probes.mixed();
        x.fault(4, DEAD);
        x.add(0, 0, 0, 3);
        x.add(3, 0, 0, 3);
        x.add(2, 3, 0, 3);
        x.add(4, 3, 0, 3);
        areDifferences(x, 0, 0, 1, 0, 3, 1);
        x.fault(4, DEAD);
        areDifferences(x, 0, 0, 0, 0, 0, 0);
        x.fault(5, BARE);
        areDifferences(x, 0, 0, 0, 0, 0, 0);
    }

    private void justByTheModel() {
        VlanProbe x = Probes.mixed();
        x.add(0, 0, 0, 3);
        x.add(1, 0, 1, 3);
        x.fault(0, DEAD);
        areDifferences(x, 1, 1, 0, 0, 1, 0);
        x.fault(0, DEAD);
        x.fault(1, DEAD);
        areDifferences(x, 1, 1, 0, 0, 1, 0);
        x.fault(1, DEAD);
        x.fault(4, DEAD);
        areDifferences(x, 0, 0, 0, 0, 2, 0);
    }

    private void justFromTheSwitch() {
        VlanProbe x = Probes.mixed();
        x.add(0, 0, 0, 3);
        x.add(1, 0, 1, 0);
        x.fault(0, DEAF);
        areDifferences(x, 0, 0, 0, 0, 1, 0);
        x.add(0, 3, 2, 3);
        x.fault(0, LOOSE);
        areDifferences(x, 0, 0, 1, 0, 2, 1);
    }

    private void taggedByJustOne() {
        VlanProbe x = Probes.mixed();
        x.add(5, 0, 0, 3);
        x.add(3, 0, 0, 3);
        x.fault(4, BARE);
        areDifferences(x, 0, 0, 0, 0, 2, 0);
        x.fault(2, BARE);
        areDifferences(x, 0, 0, 1, 0, 2, 0);
        x.fault(4, DEAD);
        areDifferences(x, 0, 0, 1, 0, 2, 0);
        x.fault(3, BARE);
        x.fault(5, BARE);
        areDifferences(x, 0, 0, 1, 0, 2, 0);
    }

    private void areDifferences(VlanProbe x, int... due) {
        for (int port = 0; port < due.length; port++) {
            sheet.is("at port " + port, x.differencesAt(port), due[port]);
        }
    }

    private void eachPort() {
        for (int ports = 2; ports <= 6; ports++) {
            for (int dead = 0; dead < ports; dead++) {
                VlanProbe x = Probes.of(ports);
                x.fault(dead, DEAD);
                x.add((dead + 1) % ports, 0, 0, 3);
                for (int port = 0; port < ports; port++) {
                    sheet.is("at port " + port + " of " + ports, x.differencesAt(port), port == dead ? 1 : 0);
                }
            }
        }
    }

    private void howMany() {
        VlanProbe x = Probes.of(3);
        x.fault(1, DEAD);
        sheet.is("no frames", x.differencesAt(1), 0);
        for (int frames = 1; frames <= 60; frames++) {
            Probes.fill(x, frames, 0, 0, 0, 3);
            sheet.is("of " + frames, x.differencesAt(1), frames);
        }
        sheet.is("elsewhere", x.differencesAt(2), 0);
        x.fault(1, DEAD);
        sheet.is("none any more", x.differencesAt(1), 0);
        x.fault(1, DEAD);
        x.clear();
        sheet.is("no frames any more", x.differencesAt(1), 0);
    }

    private void noSuchPort() {
        for (int ports = 2; ports <= 6; ports++) {
            VlanProbe x = Probes.of(ports);
            x.add(0, 0, 0, 3);
            for (int port : Sheet.outside(0, ports - 1)) {
                sheet.refused("differencesAt(" + port + ") of " + ports, Sheet.INDEX, () -> x.differencesAt(port));
            }
        }
        VlanProbe empty = new VlanProbe();
        sheet.refused("differencesAt(4) without frames", Sheet.INDEX, () -> empty.differencesAt(4));
        sheet.refused("differencesAt(-1) without frames", Sheet.INDEX, () -> empty.differencesAt(-1));
    }

    // ---- what they share

    private interface NumberCall {
        int of(VlanProbe x, int frame);
    }

    private void noSuchFrame(String name, NumberCall call) {
        VlanProbe x = new VlanProbe();
        x.fault(0, BARE);
        for (int frames : new int[] {0, 1, 2, 59, 60}) {
            Probes.fill(x, frames, 0, 0, 0, 3);
            sheet.onlyFrames(name, frames, k -> call.of(x, k));
        }
        x.clear();
        sheet.onlyFrames(name, 0, k -> call.of(x, k));
    }
}
