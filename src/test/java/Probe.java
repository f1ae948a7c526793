/** Tells all that a chip holds, what is seen only by changing it too; the chip is of no use afterwards. */
final class Probe {
    private final StringBuilder all = new StringBuilder();
    private final Object chip;

    private Probe(Object chip) {
        this.chip = chip;
    }

    static String of(Object chip) {
        Probe probe = new Probe(chip);
        probe.all.append(Calls.look(chip));
        probe.tellOfWires();
        probe.tellOfCells();
        probe.tellOfKinds();
        probe.tellOfRules();
        probe.tellOfSites();
        probe.tellOfRoom();
        return probe.all.toString();
    }

    private String ask(String name, Object... args) {
        String answer = Calls.answer(chip, name, args);
        all.append(Calls.told(name, args)).append(' ').append(answer).append('\n');
        return answer;
    }

    private int count(String name) {
        return Integer.parseInt(Calls.answer(chip, name));
    }

    /** What edges have behind them, and whether wires can be routed again at all. */
    private void tellOfWires() {
        ask("reroute", 9);
        for (int net = 0; net < count("netCount"); net++) {
            ask("routed", net);
        }
        ask("checksum");
    }

    private void tellOfCells() {
        for (int cell = 0; cell < count("cellCount"); cell++) {
            ask("setFalse", cell, false);
            ask("setCycles", cell, 1);
            ask("setSkew", cell, 0);
            ask("setDomain", cell, 0);
            ask("wish", cell, 0, 0);
        }
        ask("setPeriod", 1);
        ask("setDerate", 0);
        if (count("netCount") == 0) {
            return;
        }
        for (int cell = 0; cell < count("cellCount"); cell++) {
            ask("connect", cell, 0, 0);
            ask("connect", cell, 1, 0);
            ask("length", 0);
            ask("allLength");
        }
    }

    private void tellOfKinds() {
        for (int cell = 0; cell < count("cellCount"); cell++) {
            for (int kind = 0; kind < 12; kind++) {
                ask("setKind", cell, kind);
                ask("leakage");
                ask("worst", 1);
                ask("drop", cell);
            }
        }
    }

    private void tellOfRules() {
        ask("setCapacity", 4, 3);
        ask("addInput", 0);
        ask("addInput", 0);
        int nets = count("netCount");
        for (int apart = 0; apart < 6 && nets > 1; apart++) {
            ask("addShape", 0, apart, 0, 0, 2, 0);
            ask("addShape", 0, apart, 0, 2 + apart, 9, 1);
        }
        ask("breaches", 's');
        ask("setCapacity", 1, 1);
        for (int step = 0; step < 48; step++) {
            ask("addShape", 0, step % 6, 0, step / 6, step / 6 + 1, 0);
            ask("breaches", 'd');
        }
        tellOfAntennas();
        ask("setCapacity", 1, 1);
        for (int to = 1; to < 10; to++) {
            ask("addShape", 0, 0, 0, 0, to, 0);
        }
        ask("breaches", 'a');
        ask("setRules", 1, 0, 100, 99);
    }

    /** The net 0 gets one input alone, and shapes as long as it can bear. */
    private void tellOfAntennas() {
        int cells = count("cellCount");
        for (int cell = 0; cell < cells; cell++) {
            ask("connect", cell, 0, 1);
            ask("connect", cell, 1, 1);
        }
        for (int cell = 0; cell < cells; cell++) {
            ask("connect", cell, 0, 0);
            for (int shape = 0; shape < 100; shape++) {
                ask("addShape", 0, 0, 0, 0, 1, 0);
                ask("breaches", 't');
            }
            ask("connect", cell, 0, 1);
            if (all.indexOf("breaches(t) 1", all.length() - 4000) >= 0) {
                return;
            }
        }
    }

    private void tellOfSites() {
        for (int row = 0; row < 6; row++) {
            for (int x = 0; x < 24; x++) {
                ask("block", x, row, 1, 0);
            }
        }
    }

    /** How much room is left for more of everything. */
    private void tellOfRoom() {
        for (int more = 0; more < 13; more++) {
            ask("addKind", 'b', 1, 1, 1, 1, 1);
        }
        for (int more = 0; more < 7; more++) {
            ask("addInput", 0);
            ask("addOutput", 0, 0);
        }
        for (int more = 0; more < 19; more++) {
            ask("addCell", 0);
        }
    }
}
