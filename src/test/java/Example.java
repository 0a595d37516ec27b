public final class Example {
    public static void main(String[] args) {
        TellTale machines = new TellTale();
        machines.open(4);                              // nodes 0 to 3; the witnesses of node 0 are 1 and 2
        System.out.println(machines.input(0, 2));      // 2: node 0 has entered the input, and a sending to node 1
        System.out.println(machines.deliver(0));       // true: node 1 takes the message, keeps its head, and answers
        System.out.println(machines.forward(1));       // 1: node 1 sends a note of it to the other witness, node 2
        System.out.println(machines.deliver(1));       // true: behind the answer lies the note, node 2 keeps it
        System.out.println(machines.audit(1, 0));      // 0: TRUSTED, the log is as node 0's machine does
        System.out.println(machines.bend(0, 1, 9));    // 2: what the input was; all heads from there on are other ones
        System.out.println(machines.audit(2, 0));      // 2: EXPOSED, node 2 keeps another head than it is shown
        System.out.println(machines.total(2));         // 1: there is evidence now, number 0
        System.out.println(machines.byteOf(0, 0));     // 1: its first byte, FORK
        System.out.println(machines.judge(3, 0));      // true: the bytes alone convince node 3
        System.out.println(machines.verdict(3, 0));    // 2: EXPOSED
        System.out.println(machines.verdict(1, 0));    // 0: TRUSTED, node 1 has not looked again
        try {
            machines.audit(3, 0);
        } catch (IllegalArgumentException e) {
            System.out.println("no witness");          // no witness: node 3 is none of node 0's
        }
    }
}
