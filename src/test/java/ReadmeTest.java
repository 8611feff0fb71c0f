/** The calls that README.md shows, in its order, with the answers that it tells. */
final class ReadmeTest {
    public static void main(String[] args) {
        MappedBusNode node = new MappedBusNode(3);
        Bench.due("flush() of the boot", node.flush(), 1);

        Bench.due("frame(), to read", node.frame(0x603, 8, 0x00100040, 0), 1);
        Bench.due("ID of the answer", node.out(0, 0), 0x583);
        Bench.due("length of the answer", node.out(0, 1), 8);
        Bench.due("low of the answer", node.out(0, 2), 0x00100043);
        Bench.due("high of the answer", node.out(0, 3), 131473);
        Bench.due("flush() of the answer", node.flush(), 1);

        Bench.due("frame(), to name", node.frame(0x603, 8, 0x011A0023, 0x20000008), 1);
        Bench.due("frame(), to map", node.frame(0x603, 8, 0x001A002F, 1), 1);
        Bench.due("frame(), to run", node.frame(0, 2, 1, 0), 0);
        Bench.due("state()", node.state(), MappedBusNode.RUNNING);
        Bench.due("set()", node.set(0x2000, 0, 7, 0), 1);
        Bench.due("ID of what is given", node.out(2, 0), 0x183);
        Bench.due("low of what is given", node.out(2, 2), 7);
        Bench.due("value()", node.value(0x2000, 0, 0), 7);
        Bench.due("tick()", node.tick(), 0);
        Bench.done();
    }
}
