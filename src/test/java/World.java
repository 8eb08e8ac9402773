/** A directory with a few names in it, and what a record of a.com gives there for x@a.com at 192.0.2.1. */
final class World {
    static final int HERE = 0xC0000201;

    private World() {
    }

    static Gate of(String record) {
        Gate gate = new Gate();
        gate.text("a.com", record);
        gate.address("here.com", HERE);
        gate.address("near.com", HERE ^ 0xFF);
        gate.address("far.com", 0x0A000001);
        gate.exchange("mail.com", "far.com");
        gate.exchange("mail.com", "here.com");
        gate.text("pass.com", "v=spf1 all");
        gate.text("neutral.com", "v=spf1 ?all");
        gate.text("soft.com", "v=spf1 ~all");
        gate.text("fail.com", "v=spf1 -all");
        gate.text("broken.com", "v=spf1 x");
        gate.trouble("bad.com");
        gate.sender("x@a.com", HERE);
        return gate;
    }

    static void due(String record, int want) {
        Gate.due(record, of(record).gate.permission(), want);
    }

    static void due(String record, int want, int counted, int voids) {
        Gate gate = of(record);
        Gate.due(record, gate.gate.permission(), want);
        Gate.due("COUNTED by " + record, gate.gate.cost(0), counted);
        Gate.due("VOID by " + record, gate.gate.cost(1), voids);
    }

    /** The TERM is one, whatever it matches: it stands behind what matches before. */
    static void dueRight(String term) {
        due("v=spf1 ip4:192.0.2.1 " + term, 2);
    }

    /** The TERM is none, and no TERM before it is asked. */
    static void dueWrong(String term) {
        due("v=spf1 ip4:192.0.2.1 " + term, 6, 0, 0);
    }
}
