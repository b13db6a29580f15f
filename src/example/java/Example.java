/** Two doubles come in; the middle between them is laid on the nearest whole number. */
public final class Example {
    public static void main(String[] args) {
        BalanceRoom room = new BalanceRoom();
        room.read(12, Double.doubleToRawLongBits(2.5));
        room.read(13, Double.doubleToRawLongBits(7.0));
        room.order(9, 13); // MEET: the middle between what balance 12 has and what balance 13 has, 4.75
        room.order(3, 0);  // NEAR: the nearest whole number
        System.out.println(Double.longBitsToDouble(room.show(12)));
        try {
            room.show(0);
        } catch (IllegalStateException e) {
            System.out.println("balance 0 has no reading yet");
        }
    }
}
